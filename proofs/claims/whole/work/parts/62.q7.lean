theorem op_erase {j : Nat} {σ : ho_S} {c t : Int} (hj : j < 512) (hI : hi_Inv j σ) : mX6_erase [0, c, t] σ (fun a σ => mX7_erase [30, c, t] (ho_up σ 54 0 a) (fun b σ => σ 30 0 = 0 ∧ σ 54 0 = b ∧ hi_Inv (j + 1) σ) (fun _ _ => False)) (fun ec σ => (ec = 2 ∧ mX7_erase [30, c, t] σ (fun _ σ => σ 30 0 = 1 ∧ hi_Inv (j + 1) σ) (fun _ _ => False)) ∨ (ec = 1 ∧ mX7_erase [30, c, t] σ (fun _ σ => σ 30 0 = 2 ∧ hi_Inv (j + 1) σ) (fun _ _ => False))) := by
  have hI0 := hI
  obtain ⟨_, S, N, M, h1, h2, h3, h4, h5, h6, h7, h8, h9, h10, h11, h12, h13⟩ := hI
  have hM := h1.2.2.2.2.2.2
  have hN : N ≤ 4800 := by have := h2.1; have := h2.2.1; omega
  simp only [mX6_erase, fX6_erase, u_eC, u_eV, u_eF, u_eR, u_eI, u_eL, u_eB, u_eD, u_eM, u_eU, u_aN, u_aC, u_eK, u_eT, u_cLt, u_cLe, u_cGt, u_cGe, u_cEq, u_cNe, u_cAnd, u_cOr, u_cNot, u_zN, u_zS, u_zD, u_zL, u_zI, u_zB, u_zP, u_zF, u_zA, u_zU, u_zC, u_zR, u_zRZ, u_zRC, u_zRV, u_zT, u_zE, u_zK, u_zY, ho_nid, List.getD_cons_zero, List.getD_cons_succ, List.set_cons_zero, List.set_cons_succ, List.cons_append, List.nil_append, List.take_succ_cons, List.take_zero, Int.reduceToNat, Int.toNat_natCast, nN_0, nN_1, nN_2, nN_3, nN_4, nN_5, nN_6, nN_7, nN_8, nN_9, nN_10, nN_11, nN_12, nN_13, nN_14, nN_15, nN_16, nN_17, nN_18, nN_19, nN_20, nN_21, nN_22, nN_23, nN_24, nN_25, nN_26, nN_27, nN_28, nN_29, nN_30, nN_31, nN_32, nN_33, nN_34, nN_35, nN_36, nN_37, nN_38, nN_39, nN_40, nN_41, nN_42, nN_43, nN_44, nN_45, nN_46, nN_47, nN_48, nN_49, nN_50, nN_51, nN_52, nN_53, nN_54, nR_0_0, nR_0_1, nR_0_2, nR_0_3, nR_0_4, nR_0_5, nR_0_6, nR_0_7, nR_0_8, nR_0_9, nR_0_10, nR_1_0, nR_1_1, nR_1_2, nR_1_3, nR_1_4, nR_2_0, nR_2_1, nR_2_2, nR_2_3, nR_2_4, nR_3_0, nR_3_1, nR_4_2, nR_5_2, nR_6_0, nR_6_1, nR_6_2, nR_7_0, nR_30_2, nR_30_3, nR_30_4, nR_30_6, nR_30_7, nR_30_9, nR_30_10, nR_30_11, nR_30_12, nR_30_13, nR_30_14, nR_30_15, nR_30_16, nR_30_18, nR_30_19, nR_30_20, nR_30_21, nR_30_22, nR_30_23, nR_30_24, nR_30_28, nR_30_29, nR_30_31, sp_needText (σ := σ) (show σ 0 11 ≤ 16 by rw [h1.2.2.2.2.1]; omega), h1.2.2.2.2.1]
  have ch := h9.2.2
  by_cases cc : (0 ≤ c ∧ c < (M : Int)) ∧ 0 ≤ t ∧ t < 3
  · rw [if_pos cc]
    obtain ⟨c, rfl⟩ : ∃ y : Nat, c = (y : Int) := ⟨c.toNat, by omega⟩
    obtain ⟨t, rfl⟩ : ∃ y : Nat, t = (y : Int) := ⟨t.toNat, by omega⟩
    obtain ⟨n, T, hT, hT', hG⟩ := GX_TXT h8 (show 3 * c + t < 48 by omega)
    have hn := hT.2.1
    rw [c3]
    have e41 : σ 41 (3 * c + t) = (n : Int) := hT'.1
    refine (sp_sizeT (by omega) hT).mpr ⟨fun z => Or.inr ⟨by trivial, ?_⟩, fun z => ?_⟩
    · simp only [mX7_erase, fX7_erase, u_eC, u_eV, u_eF, u_eR, u_eI, u_eL, u_eB, u_eD, u_eM, u_eU, u_aN, u_aC, u_eK, u_eT, u_cLt, u_cLe, u_cGt, u_cGe, u_cEq, u_cNe, u_cAnd, u_cOr, u_cNot, u_zN, u_zS, u_zD, u_zL, u_zI, u_zB, u_zP, u_zF, u_zA, u_zU, u_zC, u_zR, u_zRZ, u_zRC, u_zRV, u_zT, u_zE, u_zK, u_zY, ho_nid, List.getD_cons_zero, List.getD_cons_succ, List.set_cons_zero, List.set_cons_succ, List.cons_append, List.nil_append, List.take_succ_cons, List.take_zero, Int.reduceToNat, Int.toNat_natCast, nN_0, nN_1, nN_2, nN_3, nN_4, nN_5, nN_6, nN_7, nN_8, nN_9, nN_10, nN_11, nN_12, nN_13, nN_14, nN_15, nN_16, nN_17, nN_18, nN_19, nN_20, nN_21, nN_22, nN_23, nN_24, nN_25, nN_26, nN_27, nN_28, nN_29, nN_30, nN_31, nN_32, nN_33, nN_34, nN_35, nN_36, nN_37, nN_38, nN_39, nN_40, nN_41, nN_42, nN_43, nN_44, nN_45, nN_46, nN_47, nN_48, nN_49, nN_50, nN_51, nN_52, nN_53, nN_54, nR_0_0, nR_0_1, nR_0_2, nR_0_3, nR_0_4, nR_0_5, nR_0_6, nR_0_7, nR_0_8, nR_0_9, nR_0_10, nR_1_0, nR_1_1, nR_1_2, nR_1_3, nR_1_4, nR_2_0, nR_2_1, nR_2_2, nR_2_3, nR_2_4, nR_3_0, nR_3_1, nR_4_2, nR_5_2, nR_6_0, nR_6_1, nR_6_2, nR_7_0, nR_30_2, nR_30_3, nR_30_4, nR_30_6, nR_30_7, nR_30_9, nR_30_10, nR_30_11, nR_30_12, nR_30_13, nR_30_14, nR_30_15, nR_30_16, nR_30_18, nR_30_19, nR_30_20, nR_30_21, nR_30_22, nR_30_23, nR_30_24, nR_30_28, nR_30_29, nR_30_31, sp_isText (σ := σ) (show 0 ≤ σ 30 8 by rw [h1.2.2.2.2.2.1]; omega) (show σ 30 8 ≤ 16 by rw [h1.2.2.2.2.2.1]; omega), zlt, zle, zl1, zl2, zl3, z1l, z2l, z3l, z1e, z2e, z3e, z1n, z2n, z3n, z0n, z0e, true_implies, false_implies, and_true, true_and, ho_upE, bI_ne, bI_eq, true_or, or_true, h1.2.2.2.2.2.1, mIdx (show c < 16 by omega) (show t < 3 by omega)]
      simp only [mR_30_2, mR_30_3, mR_30_4, mR_30_6, mR_30_7, mR_30_9, mR_30_10, mR_30_11, mR_30_12, mR_30_13, mR_30_14, mR_30_15, mR_30_16, mR_30_18, mR_30_19, mR_30_20, mR_30_21, mR_30_22, mR_30_23, mR_30_24, mR_30_28, mR_30_29, mR_30_31, mR_0_9, mR_7_0, nN_25, nN_26, nN_27, nN_28, nN_29, nN_30, nN_31, nN_32, nN_33, nN_34, nN_35, nN_36, nN_37, nN_38, nN_39, nN_40, nN_41, nN_42, nN_43, nN_44, nN_45, nN_46, nN_47, nN_48, nN_49, nN_50, nN_51, nN_52, nN_53, nN_54, Int.toNat_natCast, saF, saE, ho_upF, ho_upE, ne_eq, not_false_eq_true, Nat.reduceEqDiff, e41]
      exact ⟨fun _ => ⟨by omega, fun _ => Inv_sc hj hI0 (sm_up sm_rf rfl), fun w => absurd z w⟩, fun w => absurd cc w⟩
    · obtain ⟨k, rfl⟩ : ∃ k, n = k + 1 := ⟨n - 1, by omega⟩
      simp only [mX4_removeLast, fX4_removeLast, u_eC, u_eV, u_eF, u_eR, u_eI, u_eL, u_eB, u_eD, u_eM, u_eU, u_aN, u_aC, u_eK, u_eT, u_cLt, u_cLe, u_cGt, u_cGe, u_cEq, u_cNe, u_cAnd, u_cOr, u_cNot, u_zN, u_zS, u_zD, u_zL, u_zI, u_zB, u_zP, u_zF, u_zA, u_zU, u_zC, u_zR, u_zRZ, u_zRC, u_zRV, u_zT, u_zE, u_zK, u_zY, ho_nid, List.getD_cons_zero, List.getD_cons_succ, List.set_cons_zero, List.set_cons_succ, List.cons_append, List.nil_append, List.take_succ_cons, List.take_zero, Int.reduceToNat, Int.toNat_natCast, nN_0, nN_1, nN_2, nN_3, nN_4, nN_5, nN_6, nN_7, nN_8, nN_9, nN_10, nN_11, nN_12, nN_13, nN_14, nN_15, nN_16, nN_17, nN_18, nN_19, nN_20, nN_21, nN_22, nN_23, nN_24, nN_25, nN_26, nN_27, nN_28, nN_29, nN_30, nN_31, nN_32, nN_33, nN_34, nN_35, nN_36, nN_37, nN_38, nN_39, nN_40, nN_41, nN_42, nN_43, nN_44, nN_45, nN_46, nN_47, nN_48, nN_49, nN_50, nN_51, nN_52, nN_53, nN_54, nR_0_0, nR_0_1, nR_0_2, nR_0_3, nR_0_4, nR_0_5, nR_0_6, nR_0_7, nR_0_8, nR_0_9, nR_0_10, nR_1_0, nR_1_1, nR_1_2, nR_1_3, nR_1_4, nR_2_0, nR_2_1, nR_2_2, nR_2_3, nR_2_4, nR_3_0, nR_3_1, nR_4_2, nR_5_2, nR_6_0, nR_6_1, nR_6_2, nR_7_0, nR_30_2, nR_30_3, nR_30_4, nR_30_6, nR_30_7, nR_30_9, nR_30_10, nR_30_11, nR_30_12, nR_30_13, nR_30_14, nR_30_15, nR_30_16, nR_30_18, nR_30_19, nR_30_20, nR_30_21, nR_30_22, nR_30_23, nR_30_24, nR_30_28, nR_30_29, nR_30_31, sp_sizeT (show 3 * c + t < 80 by omega) hT, odec (show k < 100000 by omega), sp_signT (show 3 * c + t < 80 by omega) hT, sp_store]
      rw [si19 (by omega)]
      refine sp_noteChange (by omega) (by omega) (fun σ1 s1 e27 e28 => ?_)
      have a18 : σ1 18 = σ 18 := by rw [sm_fn s1 18 (fun _ => rfl), ho_upF (show (18 : Nat) ≠ 19 by decide)]
      have a19 : ∀ i, σ1 19 i = if i = 3 * c + t then (k : Int) else σ 19 i := fun i => by
        rw [sm_fn s1 19 (fun _ => rfl), ho_upA]
      have sA : sm pTy σ σ1 := sm_tr (sm_up sm_rf rfl) (sm_w s1 pTy_nc)
      have b27 : σ1 27 = fgn (σ 27) (3 * c + t) 1 := e27
      have b28 : ∀ i, σ1 28 i = if i = 3 * c + t then 0 else if t = 0 ∧ (i = 3 * c + 1 ∨ i = 3 * c + 2) then 1 else σ 28 i := e28
      have mm : ∀ k, (∀ j, (Nat.beq k 27 || Nat.beq k 28) = false) → k ≠ 19 → σ1 k = σ k := fun k p a => by rw [sm_fn s1 k p, ho_upF a]
      refine tau (fun τ sτ τ54 eτ => ?_)
      have q : ∀ k, (∀ j, (Nat.beq k 27 || Nat.beq k 28) = false) → k ≠ 19 → k ≠ 54 → τ k = σ k := fun k p a d => by rw [eτ k d, mm k p a]
      have q30 := q 30 (fun _ => rfl) (by omega) (by omega)
      have q41 := q 41 (fun _ => rfl) (by omega) (by omega)
      have q42 := q 42 (fun _ => rfl) (by omega) (by omega)
      have q43 := q 43 (fun _ => rfl) (by omega) (by omega)
      have q44 := q 44 (fun _ => rfl) (by omega) (by omega)
      have m8 : τ 30 8 = (M : Int) := by rw [q30]; exact h1.2.2.2.2.2.1
      simp only [mX7_erase, fX7_erase, u_eC, u_eV, u_eF, u_eR, u_eI, u_eL, u_eB, u_eD, u_eM, u_eU, u_aN, u_aC, u_eK, u_eT, u_cLt, u_cLe, u_cGt, u_cGe, u_cEq, u_cNe, u_cAnd, u_cOr, u_cNot, u_zN, u_zS, u_zD, u_zL, u_zI, u_zB, u_zP, u_zF, u_zA, u_zU, u_zC, u_zR, u_zRZ, u_zRC, u_zRV, u_zT, u_zE, u_zK, u_zY, ho_nid, List.getD_cons_zero, List.getD_cons_succ, List.set_cons_zero, List.set_cons_succ, List.cons_append, List.nil_append, List.take_succ_cons, List.take_zero, Int.reduceToNat, Int.toNat_natCast, nN_0, nN_1, nN_2, nN_3, nN_4, nN_5, nN_6, nN_7, nN_8, nN_9, nN_10, nN_11, nN_12, nN_13, nN_14, nN_15, nN_16, nN_17, nN_18, nN_19, nN_20, nN_21, nN_22, nN_23, nN_24, nN_25, nN_26, nN_27, nN_28, nN_29, nN_30, nN_31, nN_32, nN_33, nN_34, nN_35, nN_36, nN_37, nN_38, nN_39, nN_40, nN_41, nN_42, nN_43, nN_44, nN_45, nN_46, nN_47, nN_48, nN_49, nN_50, nN_51, nN_52, nN_53, nN_54, nR_0_0, nR_0_1, nR_0_2, nR_0_3, nR_0_4, nR_0_5, nR_0_6, nR_0_7, nR_0_8, nR_0_9, nR_0_10, nR_1_0, nR_1_1, nR_1_2, nR_1_3, nR_1_4, nR_2_0, nR_2_1, nR_2_2, nR_2_3, nR_2_4, nR_3_0, nR_3_1, nR_4_2, nR_5_2, nR_6_0, nR_6_1, nR_6_2, nR_7_0, nR_30_2, nR_30_3, nR_30_4, nR_30_6, nR_30_7, nR_30_9, nR_30_10, nR_30_11, nR_30_12, nR_30_13, nR_30_14, nR_30_15, nR_30_16, nR_30_18, nR_30_19, nR_30_20, nR_30_21, nR_30_22, nR_30_23, nR_30_24, nR_30_28, nR_30_29, nR_30_31, sp_isText (σ := τ) (show 0 ≤ τ 30 8 by rw [m8]; omega) (show τ 30 8 ≤ 16 by rw [m8]; omega), zlt, zle, zl1, zl2, zl3, z1l, z2l, z3l, z1e, z2e, z3e, z1n, z2n, z3n, z0n, z0e, true_implies, false_implies, and_true, true_and, ho_upE, bI_ne, bI_eq, true_or, or_true, m8, mIdx (show c < 16 by omega) (show t < 3 by omega)]
      simp only [mR_30_2, mR_30_3, mR_30_4, mR_30_6, mR_30_7, mR_30_9, mR_30_10, mR_30_11, mR_30_12, mR_30_13, mR_30_14, mR_30_15, mR_30_16, mR_30_18, mR_30_19, mR_30_20, mR_30_21, mR_30_22, mR_30_23, mR_30_24, mR_30_28, mR_30_29, mR_30_31, mR_0_9, mR_7_0, nN_25, nN_26, nN_27, nN_28, nN_29, nN_30, nN_31, nN_32, nN_33, nN_34, nN_35, nN_36, nN_37, nN_38, nN_39, nN_40, nN_41, nN_42, nN_43, nN_44, nN_45, nN_46, nN_47, nN_48, nN_49, nN_50, nN_51, nN_52, nN_53, nN_54, Int.toNat_natCast, saF, saE, ho_upF, ho_upE, ne_eq, not_false_eq_true, Nat.reduceEqDiff, q41, e41, odec (show k < 100000 by omega)]
      refine ⟨fun _ => ⟨by omega, fun w => by omega, fun _ => ⟨by omega, ?_⟩⟩, fun w => absurd cc w⟩
      refine sp_mmarks (by omega) (by omega) (by show 0 ≤ τ 30 17; rw [q30]; omega) (by show τ 30 17 ≤ 100000; rw [q30]; omega) ?_
      refine sp_forgets (by omega) (by omega) ?_
      obtain ⟨υ, hυ⟩ : ∃ υ, υ = sa (ho_up (ho_up (ho_up (ho_up τ 30 0 0) 41 (3 * c + t) (k : Int)) 30 17 (τ 30 17 + 1)) 43 (3 * c + t) (τ 30 17 + 1)) 44 (fgn (τ 44) (3 * c + t) 1) := ⟨_, rfl⟩
      have u41 : ∀ i, υ 41 i = if i = 3 * c + t then (k : Int) else σ 41 i := fun i => by
        rw [hυ]
        show ho_up (ho_up τ 30 0 0) 41 (3 * c + t) (k : Int) 41 i = _
        rw [ho_upA]
        show (if _ then _ else τ 41 i) = _
        rw [q41]
      have u42 : υ 42 = σ 42 := by
        rw [hυ]
        exact q42
      have u43 : ∀ i, υ 43 i = if i = 3 * c + t then σ 30 17 + 1 else σ 43 i := fun i => by
        rw [hυ, saF (show (43 : Nat) ≠ 44 by decide), ho_upA, q30]
        show (if _ then _ else τ 43 i) = _
        rw [q43]
      have u44 : υ 44 = fgn (σ 44) (3 * c + t) 1 := by rw [hυ, saE, q44]
      have u17 : υ 30 17 = σ 30 17 + 1 := by
        rw [hυ, saF (show (30 : Nat) ≠ 44 by decide), ho_upF (show (30 : Nat) ≠ 43 by decide), ho_upE, q30]
      have u30 : υ 30 0 = 0 := by
        rw [hυ]
        show ho_up τ 30 0 0 30 0 = 0
        exact ho_upE
      have u18 : υ 18 = σ 18 := by rw [hυ, ← a18]; exact eτ 18 (by omega)
      have u19 : υ 19 = σ1 19 := by rw [hυ]; exact eτ 19 (by omega)
      have u27 : υ 27 = σ1 27 := by rw [hυ]; exact eτ 27 (by omega)
      have u28 : υ 28 = σ1 28 := by rw [hυ]; exact eτ 28 (by omega)
      have u54 : υ 54 0 = τ 54 0 := by rw [hυ]; rfl
      have us : sm pTy σ υ := by rw [hυ]; exact sm_sa (sm_up (sm_up (sm_up (sm_up (sm_tr sA (sm_w sτ pTy_sc)) rfl) rfl) rfl) rfl) (fun _ => rfl)
      have goalS : (0 ≤ ((3 * c + t : Nat) : Int) ∧ ((3 * c + t : Nat) : Int) < 48) ∧ (0 ≤ ho_oadd (ho_omul 60 ((3 * c + t : Nat) : Int)) (υ 41 (3 * c + t)) ∧ ho_oadd (ho_omul 60 ((3 * c + t : Nat) : Int)) (υ 41 (3 * c + t)) < 2880) ∧ υ 30 0 = 0 ∧ υ 54 0 = υ 42 (ho_oadd (ho_omul 60 ((3 * c + t : Nat) : Int)) (υ 41 (3 * c + t))).toNat ∧ hi_Inv (j + 1) υ := by
       rw [u41, if_pos rfl, o60 (by omega) (by omega), Int.toNat_natCast, u42, MTX_at hT' (by omega)]
       refine ⟨by omega, by omega, u30, by rw [u54, τ54], Inv_ty hj hI0 (c := c) (t := t) (by omega) (by omega) us (fun x hx hxx => ?_) (fun x hx hxx => ?_) ?_ ?_ (fun i => ?_) u17 u43 (by rw [u27]; exact b27) u44 (fun i => by rw [u28]; exact b28 i)⟩
       · refine tv_eq (by rw [u19, a19, if_neg hxx]) (fun i hi => by rw [u18])
       · refine tv_eq (by rw [u41, if_neg hxx]) (fun i hi => by rw [u42])
       · refine tv_eq (by rw [u19, a19, if_pos rfl, u41, if_pos rfl]) (fun i hi => ?_)
         rw [u19, a19, if_pos rfl] at hi
         rw [u18, u42, TXT_at hT (by omega), MTX_at hT' (by omega)]
       · rw [u19, a19, if_pos rfl]; omega
       · unfold tx
         rw [u19, a19, if_pos rfl, u18]
         by_cases z8 : (i : Int) < (k : Int)
         · rw [if_pos z8, TXT_at hT (by omega)]; exact hG i (by omega)
         · rw [if_neg z8]; omega
      rw [hυ] at goalS
      exact goalS
  · rw [if_neg cc]
    refine Or.inl ⟨by trivial, ?_⟩
    simp only [mX7_erase, fX7_erase, u_eC, u_eV, u_eF, u_eR, u_eI, u_eL, u_eB, u_eD, u_eM, u_eU, u_aN, u_aC, u_eK, u_eT, u_cLt, u_cLe, u_cGt, u_cGe, u_cEq, u_cNe, u_cAnd, u_cOr, u_cNot, u_zN, u_zS, u_zD, u_zL, u_zI, u_zB, u_zP, u_zF, u_zA, u_zU, u_zC, u_zR, u_zRZ, u_zRC, u_zRV, u_zT, u_zE, u_zK, u_zY, ho_nid, List.getD_cons_zero, List.getD_cons_succ, List.set_cons_zero, List.set_cons_succ, List.cons_append, List.nil_append, List.take_succ_cons, List.take_zero, Int.reduceToNat, Int.toNat_natCast, nN_0, nN_1, nN_2, nN_3, nN_4, nN_5, nN_6, nN_7, nN_8, nN_9, nN_10, nN_11, nN_12, nN_13, nN_14, nN_15, nN_16, nN_17, nN_18, nN_19, nN_20, nN_21, nN_22, nN_23, nN_24, nN_25, nN_26, nN_27, nN_28, nN_29, nN_30, nN_31, nN_32, nN_33, nN_34, nN_35, nN_36, nN_37, nN_38, nN_39, nN_40, nN_41, nN_42, nN_43, nN_44, nN_45, nN_46, nN_47, nN_48, nN_49, nN_50, nN_51, nN_52, nN_53, nN_54, nR_0_0, nR_0_1, nR_0_2, nR_0_3, nR_0_4, nR_0_5, nR_0_6, nR_0_7, nR_0_8, nR_0_9, nR_0_10, nR_1_0, nR_1_1, nR_1_2, nR_1_3, nR_1_4, nR_2_0, nR_2_1, nR_2_2, nR_2_3, nR_2_4, nR_3_0, nR_3_1, nR_4_2, nR_5_2, nR_6_0, nR_6_1, nR_6_2, nR_7_0, nR_30_2, nR_30_3, nR_30_4, nR_30_6, nR_30_7, nR_30_9, nR_30_10, nR_30_11, nR_30_12, nR_30_13, nR_30_14, nR_30_15, nR_30_16, nR_30_18, nR_30_19, nR_30_20, nR_30_21, nR_30_22, nR_30_23, nR_30_24, nR_30_28, nR_30_29, nR_30_31, sp_isText (σ := σ) (show 0 ≤ σ 30 8 by rw [h1.2.2.2.2.2.1]; omega) (show σ 30 8 ≤ 16 by rw [h1.2.2.2.2.2.1]; omega), zlt, zle, zl1, zl2, zl3, z1l, z2l, z3l, z1e, z2e, z3e, z1n, z2n, z3n, z0n, z0e, true_implies, false_implies, and_true, true_and, ho_upE, bI_ne, bI_eq, true_or, or_true, h1.2.2.2.2.2.1]
    exact ⟨fun w => absurd w cc, fun _ => Inv_sc hj hI0 (sm_up sm_rf rfl)⟩

def bcn (z : Int) : Int :=
  let a := ho_osub z (ho_oand (ho_oushr z 1) 1431655765)
  let b := ho_oadd (ho_oand a 858993459) (ho_oand (ho_oushr a 2) 858993459)
  let c := ho_oand (ho_oadd b (ho_oushr b 4)) 252645135
  let d := ho_oadd c (ho_oushr c 8)
  let e := ho_oadd d (ho_oushr d 16)
  ho_oand e 63
theorem sp_bitCount {z : Int} {σ : ho_S} {Q : ho_K} {X : ho_X} : mJ6_bitCount_0f7a4 [z] σ Q X ↔ Q (bcn z) σ := Iff.rfl
theorem bcn_ok : ∀ z : Nat, z < 256 → bcn (z : Int) = cnt (fun r => z.testBit r) 8 := by decide +kernel
theorem nots_ok : ∀ y : Nat, y < 256 → (BitVec.ofInt 32 (ho_oxor (y : Int) (-1))).toNat = 4294967295 - y := by decide +kernel
theorem notb_ok : ∀ y : Nat, y < 256 → ∀ r : Nat, r < 8 → (4294967295 - y).testBit r = !y.testBit r := by decide +kernel
theorem andn {x y : Nat} (hx : x < 256) (hy : y < 256) : bcn (ho_oand (x : Int) (ho_oxor (y : Int) (-1))) = cnt (fun r => x.testBit r && !y.testBit r) 8 := by
  have e : ho_oand (x : Int) (ho_oxor (y : Int) (-1)) = ((x &&& (4294967295 - y) : Nat) : Int) := by
    show (BitVec.ofInt 32 (x : Int) &&& BitVec.ofInt 32 (ho_oxor (y : Int) (-1))).toInt = _
    have e1 : BitVec.ofInt 32 (x : Int) = BitVec.ofNat 32 x := by simp
    have h : (BitVec.ofInt 32 (x : Int) &&& BitVec.ofInt 32 (ho_oxor (y : Int) (-1))).toNat = (x &&& (4294967295 - y)) := by
      rw [BitVec.toNat_and, nots_ok y hy, e1, bt_lt (by omega)]
    have h2 : (x &&& (4294967295 - y)) ≤ x := Nat.and_le_left
    rw [bt_int (by rw [h]; omega), h]
  have h2 : (x &&& (4294967295 - y)) ≤ x := Nat.and_le_left
  rw [e, bcn_ok _ (by omega)]
  clear e
  refine cnt_congr (fun r hr => ?_)
  rw [Nat.testBit_and, notb_ok y hy r hr]
/-- the names of a text, as a set -/
theorem sp_namedRules {t : Nat} {σ : ho_S} {Q : ho_K} {X : ho_X} (ht : t < 48) (h : ∀ y : Nat, y < 256 → (∀ r, r < 8 → y.testBit r = decide (σ 27 (8 * t + r) ≠ 0)) → Q (y : Int) σ) : mX6_namedRules [0, (t : Int)] σ Q X := by
  simp only [mX6_namedRules, fX6_namedRules, u_eC, u_eV, u_eF, u_eR, u_eI, u_eL, u_eB, u_eD, u_eM, u_eU, u_aN, u_aC, u_eK, u_eT, u_cLt, u_cLe, u_cGt, u_cGe, u_cEq, u_cNe, u_cAnd, u_cOr, u_cNot, u_zN, u_zS, u_zD, u_zL, u_zI, u_zB, u_zP, u_zF, u_zA, u_zU, u_zC, u_zR, u_zRZ, u_zRC, u_zRV, u_zT, u_zE, u_zK, u_zY, ho_nid, List.getD_cons_zero, List.getD_cons_succ, List.set_cons_zero, List.set_cons_succ, List.cons_append, List.nil_append, List.take_succ_cons, List.take_zero, Int.reduceToNat, Int.toNat_natCast, nN_0, nN_1, nN_2, nN_3, nN_4, nN_5, nN_6, nN_7, nN_8, nN_9, nN_10, nN_11, nN_12, nN_13, nN_14, nN_15, nN_16, nN_17, nN_18, nN_19, nN_20, nN_21, nN_22, nN_23, nN_24, nN_25, nN_26, nN_27, nN_28, nN_29, nN_30, nN_31, nN_32, nN_33, nN_34, nN_35, nN_36, nN_37, nN_38, nN_39, nN_40, nN_41, nN_42, nN_43, nN_44, nN_45, nN_46, nN_47, nN_48, nN_49, nN_50, nN_51, nN_52, nN_53, nN_54, nR_0_0, nR_0_1, nR_0_2, nR_0_3, nR_0_4, nR_0_5, nR_0_6, nR_0_7, nR_0_8, nR_0_9, nR_0_10, nR_1_0, nR_1_1, nR_1_2, nR_1_3, nR_1_4, nR_2_0, nR_2_1, nR_2_2, nR_2_3, nR_2_4, nR_3_0, nR_3_1, nR_4_2, nR_5_2, nR_6_0, nR_6_1, nR_6_2, nR_7_0, nR_30_2, nR_30_3, nR_30_4, nR_30_6, nR_30_7, nR_30_9, nR_30_10, nR_30_11, nR_30_12, nR_30_13, nR_30_14, nR_30_15, nR_30_16, nR_30_18, nR_30_19, nR_30_20, nR_30_21, nR_30_22, nR_30_23, nR_30_24, nR_30_28, nR_30_29, nR_30_31]
  refine zW_rule (fun v σ' m => ∃ k y : Nat, (k ≤ 8) ∧ y < 256 ∧ v = [0, (t : Int), (y : Int), (k : Int)] ∧ m = 8 - k ∧ σ' = σ ∧ ∀ r, r < 8 → y.testBit r = (decide (r < k) && decide (σ 27 (8 * t + r) ≠ 0))) _ ⟨0, 0, by omega, by omega, rfl, rfl, rfl, fun r hr => by rw [Nat.zero_testBit]; rfl⟩ ?_
  rintro v σ' m ⟨k, y, hk, hy, rfl, rfl, rfl, hb⟩ KK KE hKK hKE
  simp only [u_eC, u_eV, u_eF, u_eR, u_eI, u_eL, u_eB, u_eD, u_eM, u_eU, u_aN, u_aC, u_eK, u_eT, u_cLt, u_cLe, u_cGt, u_cGe, u_cEq, u_cNe, u_cAnd, u_cOr, u_cNot, u_zN, u_zS, u_zD, u_zL, u_zI, u_zB, u_zP, u_zF, u_zA, u_zU, u_zC, u_zR, u_zRZ, u_zRC, u_zRV, u_zT, u_zE, u_zK, u_zY, ho_nid, List.getD_cons_zero, List.getD_cons_succ, List.set_cons_zero, List.set_cons_succ, List.cons_append, List.nil_append, List.take_succ_cons, List.take_zero, Int.reduceToNat, Int.toNat_natCast, nN_0, nN_1, nN_2, nN_3, nN_4, nN_5, nN_6, nN_7, nN_8, nN_9, nN_10, nN_11, nN_12, nN_13, nN_14, nN_15, nN_16, nN_17, nN_18, nN_19, nN_20, nN_21, nN_22, nN_23, nN_24, nN_25, nN_26, nN_27, nN_28, nN_29, nN_30, nN_31, nN_32, nN_33, nN_34, nN_35, nN_36, nN_37, nN_38, nN_39, nN_40, nN_41, nN_42, nN_43, nN_44, nN_45, nN_46, nN_47, nN_48, nN_49, nN_50, nN_51, nN_52, nN_53, nN_54, nR_0_0, nR_0_1, nR_0_2, nR_0_3, nR_0_4, nR_0_5, nR_0_6, nR_0_7, nR_0_8, nR_0_9, nR_0_10, nR_1_0, nR_1_1, nR_1_2, nR_1_3, nR_1_4, nR_2_0, nR_2_1, nR_2_2, nR_2_3, nR_2_4, nR_3_0, nR_3_1, nR_4_2, nR_5_2, nR_6_0, nR_6_1, nR_6_2, nR_7_0, nR_30_2, nR_30_3, nR_30_4, nR_30_6, nR_30_7, nR_30_9, nR_30_10, nR_30_11, nR_30_12, nR_30_13, nR_30_14, nR_30_15, nR_30_16, nR_30_18, nR_30_19, nR_30_20, nR_30_21, nR_30_22, nR_30_23, nR_30_24, nR_30_28, nR_30_29, nR_30_31, sp_item, sp_bit, inc (show k < 100000 by omega), o8c (show t < 1000 by omega) (show k < 1000 by omega)]
  refine ⟨fun c1 => ?_, fun c1 => hKE _ ?_⟩
  · have hk8 : k < 8 := by omega
    rw [gi27 (by omega)]
    refine ⟨fun d => ?_, fun d => ?_⟩
    · obtain ⟨z, hz, hz2⟩ := or_lt (x := y) (c := k) (n := 8) (by omega) hk8 (by omega)
      have bo : ∀ r, bit (ho_oor (y : Int) (ho_oshl 1 (k : Int))) r = (bit (y : Int) r || decide (k = r)) := fun r => bit_or (by omega) (by omega)
      rw [hz] at bo ⊢
      clear hz
      refine hKK _ _ (8 - (k + 1)) (by omega) ⟨k + 1, z, by omega, hz2, rfl, rfl, rfl, fun r hr => ?_⟩
      have b := bo r
      rw [show z.testBit r = bit (z : Int) r from rfl, b, show bit (y : Int) r = y.testBit r from rfl, hb r hr]
      by_cases q : k = r
      · subst q
        rw [decide_eq_true (show k = k from rfl), decide_eq_true (show k < k + 1 by omega), decide_eq_true (show σ' 27 (8 * t + k) ≠ 0 from d)]
        simp
      · rw [decide_eq_false q]
        by_cases q2 : r < k
        · rw [decide_eq_true q2, decide_eq_true (show r < k + 1 by omega)]; simp
        · rw [decide_eq_false q2, decide_eq_false (show ¬ r < k + 1 by omega)]; simp
    · have o0 : ho_oor (y : Int) 0 = (y : Int) := by
        have := or_nat (a := y) (b := 0) (by omega) (by omega)
        rw [Nat.or_zero] at this
        exact this
      rw [o0]
      clear o0
      refine hKK _ _ (8 - (k + 1)) (by omega) ⟨k + 1, y, by omega, hy, rfl, rfl, rfl, fun r hr => ?_⟩
      rw [hb r hr]
      by_cases q : k = r
      · subst q
        rw [decide_eq_false (show ¬ k < k by omega), decide_eq_false (show ¬ σ' 27 (8 * t + k) ≠ 0 from fun w => w d)]
        simp
      · by_cases q2 : r < k
        · rw [decide_eq_true q2, decide_eq_true (show r < k + 1 by omega)]
        · rw [decide_eq_false q2, decide_eq_false (show ¬ r < k + 1 by omega)]
  · have hk8 : k = 8 := by omega
    subst hk8
    exact h y hy (fun r hr => by rw [hb r hr, decide_eq_true hr]; rfl)

theorem op_faults {j : Nat} {σ : ho_S} {t : Int} (hj : j < 512) (hI : hi_Inv j σ) : mX6_faults [0, t] σ (fun a σ => mX7_faults [30, t] (ho_up σ 54 0 a) (fun b σ => σ 30 0 = 0 ∧ σ 54 0 = b ∧ hi_Inv (j + 1) σ) (fun _ _ => False)) (fun ec σ => (ec = 2 ∧ mX7_faults [30, t] σ (fun _ σ => σ 30 0 = 1 ∧ hi_Inv (j + 1) σ) (fun _ _ => False))) := by
  have hI0 := hI
  obtain ⟨_, S, N, M, h1, h2, h3, h4, h5, h6, h7, h8, h9, h10, h11, h12, h13⟩ := hI
  have hM := h1.2.2.2.2.2.2
  have hN : N ≤ 4800 := by have := h2.1; have := h2.2.1; omega
  simp only [mX6_faults, fX6_faults, u_eC, u_eV, u_eF, u_eR, u_eI, u_eL, u_eB, u_eD, u_eM, u_eU, u_aN, u_aC, u_eK, u_eT, u_cLt, u_cLe, u_cGt, u_cGe, u_cEq, u_cNe, u_cAnd, u_cOr, u_cNot, u_zN, u_zS, u_zD, u_zL, u_zI, u_zB, u_zP, u_zF, u_zA, u_zU, u_zC, u_zR, u_zRZ, u_zRC, u_zRV, u_zT, u_zE, u_zK, u_zY, ho_nid, List.getD_cons_zero, List.getD_cons_succ, List.set_cons_zero, List.set_cons_succ, List.cons_append, List.nil_append, List.take_succ_cons, List.take_zero, Int.reduceToNat, Int.toNat_natCast, nN_0, nN_1, nN_2, nN_3, nN_4, nN_5, nN_6, nN_7, nN_8, nN_9, nN_10, nN_11, nN_12, nN_13, nN_14, nN_15, nN_16, nN_17, nN_18, nN_19, nN_20, nN_21, nN_22, nN_23, nN_24, nN_25, nN_26, nN_27, nN_28, nN_29, nN_30, nN_31, nN_32, nN_33, nN_34, nN_35, nN_36, nN_37, nN_38, nN_39, nN_40, nN_41, nN_42, nN_43, nN_44, nN_45, nN_46, nN_47, nN_48, nN_49, nN_50, nN_51, nN_52, nN_53, nN_54, nR_0_0, nR_0_1, nR_0_2, nR_0_3, nR_0_4, nR_0_5, nR_0_6, nR_0_7, nR_0_8, nR_0_9, nR_0_10, nR_1_0, nR_1_1, nR_1_2, nR_1_3, nR_1_4, nR_2_0, nR_2_1, nR_2_2, nR_2_3, nR_2_4, nR_3_0, nR_3_1, nR_4_2, nR_5_2, nR_6_0, nR_6_1, nR_6_2, nR_7_0, nR_30_2, nR_30_3, nR_30_4, nR_30_6, nR_30_7, nR_30_9, nR_30_10, nR_30_11, nR_30_12, nR_30_13, nR_30_14, nR_30_15, nR_30_16, nR_30_18, nR_30_19, nR_30_20, nR_30_21, nR_30_22, nR_30_23, nR_30_24, nR_30_28, nR_30_29, nR_30_31, sp_needTongue]
  by_cases ct : 0 ≤ t ∧ t < 3
  · rw [if_pos ct]
    obtain ⟨t, rfl⟩ : ∃ y : Nat, t = (y : Int) := ⟨t.toNat, by omega⟩
    obtain ⟨B, hB⟩ : ∃ B : Nat → Int, ∀ c, c < M → ∃ n T, TXT σ (3 * c + t) n T ∧ MTX σ (3 * c + t) n T ∧ B c = RB (σ 37) (σ 38) (σ 36) (σ 34) (decide (0 < t ∧ 0 < n ∧ σ 43 (3 * c + t) < σ 43 (3 * c))) T n (σ 30 25) (σ 30 26) M c := by
      obtain ⟨B, hB⟩ := (Classical.skolem (p := fun (c : Nat) (b : Int) => c < M → ∃ n T, TXT σ (3 * c + t) n T ∧ MTX σ (3 * c + t) n T ∧ b = RB (σ 37) (σ 38) (σ 36) (σ 34) (decide (0 < t ∧ 0 < n ∧ σ 43 (3 * c + t) < σ 43 (3 * c))) T n (σ 30 25) (σ 30 26) M c)).mp (fun c => by
        by_cases q : c < M
        · obtain ⟨n, T, a, b, _⟩ := GX_TXT h8 (show 3 * c + t < 48 by omega)
          exact ⟨_, fun _ => ⟨n, T, a, b, rfl⟩⟩
        · exact ⟨0, fun z => absurd z q⟩)
      exact ⟨B, hB⟩
    obtain ⟨fc, hfc⟩ : ∃ fc : Nat → Int, ∀ c, fc c = cnt (fun r => bit (B c) r && decide (σ 44 (8 * (3 * c + t) + r) = 0)) 8 := ⟨_, fun _ => rfl⟩
    obtain ⟨sm9, hs0, hs1⟩ : ∃ f : Nat → Int, f 0 = 0 ∧ ∀ c, f (c + 1) = f c + fc c := ⟨fun n => Nat.rec 0 (fun c a => a + fc c) n, rfl, fun _ => rfl⟩
    have fr : ∀ c, 0 ≤ fc c ∧ fc c ≤ 8 := fun c => by rw [hfc]; exact cnt_range _ 8
    have sr : ∀ c, 0 ≤ sm9 c ∧ sm9 c ≤ 8 * c := fun c => by
      induction c with
      | zero => rw [hs0]; exact ⟨Int.le_refl _, Int.le_refl _⟩
      | succ c ih => rw [hs1]; have := fr c; omega
    refine zW_rule (fun v σ' m => ∃ k : Nat, (k ≤ M) ∧ v = [0, (t : Int), sm9 k, (k : Int)] ∧ m = M - k ∧ sm pSc σ σ') _ ⟨0, by omega, by rw [hs0]; rfl, rfl, sm_rf⟩ ?_
    rintro v σ' m ⟨k, hk, rfl, rfl, s⟩ KK KE hKK hKE
    have r9 := sr k
    simp only [u_eC, u_eV, u_eF, u_eR, u_eI, u_eL, u_eB, u_eD, u_eM, u_eU, u_aN, u_aC, u_eK, u_eT, u_cLt, u_cLe, u_cGt, u_cGe, u_cEq, u_cNe, u_cAnd, u_cOr, u_cNot, u_zN, u_zS, u_zD, u_zL, u_zI, u_zB, u_zP, u_zF, u_zA, u_zU, u_zC, u_zR, u_zRZ, u_zRC, u_zRV, u_zT, u_zE, u_zK, u_zY, ho_nid, List.getD_cons_zero, List.getD_cons_succ, List.set_cons_zero, List.set_cons_succ, List.cons_append, List.nil_append, List.take_succ_cons, List.take_zero, Int.reduceToNat, Int.toNat_natCast, nN_0, nN_1, nN_2, nN_3, nN_4, nN_5, nN_6, nN_7, nN_8, nN_9, nN_10, nN_11, nN_12, nN_13, nN_14, nN_15, nN_16, nN_17, nN_18, nN_19, nN_20, nN_21, nN_22, nN_23, nN_24, nN_25, nN_26, nN_27, nN_28, nN_29, nN_30, nN_31, nN_32, nN_33, nN_34, nN_35, nN_36, nN_37, nN_38, nN_39, nN_40, nN_41, nN_42, nN_43, nN_44, nN_45, nN_46, nN_47, nN_48, nN_49, nN_50, nN_51, nN_52, nN_53, nN_54, nR_0_0, nR_0_1, nR_0_2, nR_0_3, nR_0_4, nR_0_5, nR_0_6, nR_0_7, nR_0_8, nR_0_9, nR_0_10, nR_1_0, nR_1_1, nR_1_2, nR_1_3, nR_1_4, nR_2_0, nR_2_1, nR_2_2, nR_2_3, nR_2_4, nR_3_0, nR_3_1, nR_4_2, nR_5_2, nR_6_0, nR_6_1, nR_6_2, nR_7_0, nR_30_2, nR_30_3, nR_30_4, nR_30_6, nR_30_7, nR_30_9, nR_30_10, nR_30_11, nR_30_12, nR_30_13, nR_30_14, nR_30_15, nR_30_16, nR_30_18, nR_30_19, nR_30_20, nR_30_21, nR_30_22, nR_30_23, nR_30_24, nR_30_28, nR_30_29, nR_30_31, (mGS h1 s).2.2.2.2.1, inc (show k < 100000 by omega)]
    refine ⟨fun c1 => ?_, fun c1 => hKE _ ?_⟩
    · have hkM : k < M := by omega
      obtain ⟨n, T, hT, hT', bB⟩ := hB k hkM
      refine brk_c h1 h2 h6 h7 h9 h13 hkM (by omega) hT s (fun τ sτ _ => ?_)
      rw [← bB]
      obtain ⟨x, hx, hx2⟩ := RB_256 (st := σ 37) (ln := σ 38) (lk := σ 36) (F := σ 34) (stale := decide (0 < t ∧ 0 < n ∧ σ 43 (3 * k + t) < σ 43 (3 * k))) (T := T) (n := n) (W := σ 30 25) (sp := σ 30 26) (M := M) (c := k)
      rw [← bB] at hx
      refine sp_textOf.mpr ?_
      rw [o3c (by omega) (by omega)]
      refine sp_namedRules (by omega) (fun y hy hyb => ?_)
      refine sp_bitCount.mpr ?_
      rw [hx, andn hx2 hy]
      have e9 : cnt (fun r => x.testBit r && !y.testBit r) 8 = fc k := by
        rw [hfc]
        refine cnt_congr (fun r hr => ?_)
        rw [hyb r hr, hx, sm_fn sτ 27 (fun _ => rfl), h10 _ (by omega)]
        show (x.testBit r && !decide (σ 44 (8 * (3 * k + t) + r) ≠ 0)) = (x.testBit r && decide (σ 44 (8 * (3 * k + t) + r) = 0))
        by_cases z : σ 44 (8 * (3 * k + t) + r) = 0
        · rw [decide_eq_true z, decide_eq_false (fun w => w z)]; rfl
        · rw [decide_eq_false z, decide_eq_true z]; rfl
      have f9 := fr k
      rw [e9, wad (by omega) (by omega), ← hs1]
      exact hKK _ _ (M - (k + 1)) (by omega) ⟨k + 1, by omega, rfl, rfl, sτ⟩
    · have hkM : k = M := by omega
      subst hkM
      refine tau (fun τ sτ1 τ54 eτ => ?_)
      have sτ := sm_tr s sτ1
      simp only [mX7_faults, fX7_faults, u_eC, u_eV, u_eF, u_eR, u_eI, u_eL, u_eB, u_eD, u_eM, u_eU, u_aN, u_aC, u_eK, u_eT, u_cLt, u_cLe, u_cGt, u_cGe, u_cEq, u_cNe, u_cAnd, u_cOr, u_cNot, u_zN, u_zS, u_zD, u_zL, u_zI, u_zB, u_zP, u_zF, u_zA, u_zU, u_zC, u_zR, u_zRZ, u_zRC, u_zRV, u_zT, u_zE, u_zK, u_zY, ho_nid, List.getD_cons_zero, List.getD_cons_succ, List.set_cons_zero, List.set_cons_succ, List.cons_append, List.nil_append, List.take_succ_cons, List.take_zero, Int.reduceToNat, Int.toNat_natCast, nN_0, nN_1, nN_2, nN_3, nN_4, nN_5, nN_6, nN_7, nN_8, nN_9, nN_10, nN_11, nN_12, nN_13, nN_14, nN_15, nN_16, nN_17, nN_18, nN_19, nN_20, nN_21, nN_22, nN_23, nN_24, nN_25, nN_26, nN_27, nN_28, nN_29, nN_30, nN_31, nN_32, nN_33, nN_34, nN_35, nN_36, nN_37, nN_38, nN_39, nN_40, nN_41, nN_42, nN_43, nN_44, nN_45, nN_46, nN_47, nN_48, nN_49, nN_50, nN_51, nN_52, nN_53, nN_54, nR_0_0, nR_0_1, nR_0_2, nR_0_3, nR_0_4, nR_0_5, nR_0_6, nR_0_7, nR_0_8, nR_0_9, nR_0_10, nR_1_0, nR_1_1, nR_1_2, nR_1_3, nR_1_4, nR_2_0, nR_2_1, nR_2_2, nR_2_3, nR_2_4, nR_3_0, nR_3_1, nR_4_2, nR_5_2, nR_6_0, nR_6_1, nR_6_2, nR_7_0, nR_30_2, nR_30_3, nR_30_4, nR_30_6, nR_30_7, nR_30_9, nR_30_10, nR_30_11, nR_30_12, nR_30_13, nR_30_14, nR_30_15, nR_30_16, nR_30_18, nR_30_19, nR_30_20, nR_30_21, nR_30_22, nR_30_23, nR_30_24, nR_30_28, nR_30_29, nR_30_31, sp_in, zlt, zle, zl1, zl2, zl3, z1l, z2l, z3l, z1e, z2e, z3e, z1n, z2n, z3n, z0n, z0e, true_implies, false_implies, and_true, true_and, ho_upE, bI_ne, bI_eq, true_or, or_true]
      refine ⟨fun _ => ?_, fun w => absurd (show 0 ≤ (t : Int) ∧ (t : Int) ≤ 2 by omega) w⟩
      refine zW_rule (fun v σ2 m => ∃ q : Nat, (q ≤ k) ∧ v = [30, (t : Int), sm9 q, (q : Int)] ∧ m = k - q ∧ sm pSc σ σ2 ∧ σ2 30 0 = 0 ∧ σ2 54 0 = sm9 k) _ ⟨0, by omega, by rw [hs0]; rfl, rfl, sm_up sτ rfl, ho_upE, τ54⟩ ?_
      rintro v σ2 m ⟨q, hq, rfl, rfl, s2, z2, w2⟩ K2 KE2 hK2 hE2
      have rq := sr q
      simp only [u_eC, u_eV, u_eF, u_eR, u_eI, u_eL, u_eB, u_eD, u_eM, u_eU, u_aN, u_aC, u_eK, u_eT, u_cLt, u_cLe, u_cGt, u_cGe, u_cEq, u_cNe, u_cAnd, u_cOr, u_cNot, u_zN, u_zS, u_zD, u_zL, u_zI, u_zB, u_zP, u_zF, u_zA, u_zU, u_zC, u_zR, u_zRZ, u_zRC, u_zRV, u_zT, u_zE, u_zK, u_zY, ho_nid, List.getD_cons_zero, List.getD_cons_succ, List.set_cons_zero, List.set_cons_succ, List.cons_append, List.nil_append, List.take_succ_cons, List.take_zero, Int.reduceToNat, Int.toNat_natCast, nN_0, nN_1, nN_2, nN_3, nN_4, nN_5, nN_6, nN_7, nN_8, nN_9, nN_10, nN_11, nN_12, nN_13, nN_14, nN_15, nN_16, nN_17, nN_18, nN_19, nN_20, nN_21, nN_22, nN_23, nN_24, nN_25, nN_26, nN_27, nN_28, nN_29, nN_30, nN_31, nN_32, nN_33, nN_34, nN_35, nN_36, nN_37, nN_38, nN_39, nN_40, nN_41, nN_42, nN_43, nN_44, nN_45, nN_46, nN_47, nN_48, nN_49, nN_50, nN_51, nN_52, nN_53, nN_54, nR_0_0, nR_0_1, nR_0_2, nR_0_3, nR_0_4, nR_0_5, nR_0_6, nR_0_7, nR_0_8, nR_0_9, nR_0_10, nR_1_0, nR_1_1, nR_1_2, nR_1_3, nR_1_4, nR_2_0, nR_2_1, nR_2_2, nR_2_3, nR_2_4, nR_3_0, nR_3_1, nR_4_2, nR_5_2, nR_6_0, nR_6_1, nR_6_2, nR_7_0, nR_30_2, nR_30_3, nR_30_4, nR_30_6, nR_30_7, nR_30_9, nR_30_10, nR_30_11, nR_30_12, nR_30_13, nR_30_14, nR_30_15, nR_30_16, nR_30_18, nR_30_19, nR_30_20, nR_30_21, nR_30_22, nR_30_23, nR_30_24, nR_30_28, nR_30_29, nR_30_31, (mGS h1 s2).2.2.2.2.2, inc (show q < 100000 by omega), z2, zlt, zle, zl1, zl2, zl3, z1l, z2l, z3l, z1e, z2e, z3e, z1n, z2n, z3n, z0n, z0e, true_implies, false_implies, and_true, true_and, ho_upE, bI_ne, bI_eq, true_or, or_true]
      refine ⟨fun c2 => ?_, fun c2 => hE2 _ ?_⟩
      · have hqM : q < k := by omega
        obtain ⟨n, T, hT, hT', bB⟩ := hB q hqM
        refine brk_m h1 h2 h6 h13 hqM (by omega) hT' s2 (fun τ2 sτ2 sr2 => ?_)
        rw [← bB]
        obtain ⟨x, hx, hx2⟩ := RB_256 (st := σ 37) (ln := σ 38) (lk := σ 36) (F := σ 34) (stale := decide (0 < t ∧ 0 < n ∧ σ 43 (3 * q + t) < σ 43 (3 * q))) (T := T) (n := n) (W := σ 30 25) (sp := σ 30 26) (M := k) (c := q)
        rw [← bB] at hx
        have inner : ∀ Q9 : List Int → ho_S → Prop, Q9 [30, (t : Int), sm9 q + fc q, (q : Int), B q, 8] τ2 → zW (cLt (eV 5) (eC 8)) (zS (zL 2 (eB ho_oadd (eV 2) (eT (cAnd (cEq (eB ho_oand (eB ho_oshr (eV 4) (eV 5)) (eC 1)) (eC 1)) (cEq (eI (eR (eV 0) 18) (eB ho_oadd (eB ho_omul (eC 8) (eB ho_oadd (eB ho_omul (eC 3) (eV 3)) (eV 1))) (eV 5))) (eC 0))) (eC 1) (eC 0)))) (zI 5 1)) [30, (t : Int), sm9 q, (q : Int), B q, 0] τ2 Q9 (fun b σ => σ 30 0 = 0 ∧ σ 54 0 = b ∧ hi_Inv (j + 1) σ) (fun _ _ => False) := by
          intro Q9 hQ9
          refine zW_rule (fun v σ3 m => ∃ r : Nat, (r ≤ 8) ∧ v = [30, (t : Int), sm9 q + cnt (fun r => bit (B q) r && decide (σ 44 (8 * (3 * q + t) + r) = 0)) r, (q : Int), B q, (r : Int)] ∧ m = 8 - r ∧ σ3 = τ2) _ ⟨0, by omega, by rw [show cnt (fun r => bit (B q) r && decide (σ 44 (8 * (3 * q + t) + r) = 0)) 0 = 0 from rfl, Int.add_zero]; rfl, rfl, rfl⟩ ?_
          rintro v σ3 m ⟨r, hr, rfl, rfl, rfl⟩ K3 KE3 hK3 hE3
          have cr := cnt_range (fun r => bit (B q) r && decide (σ 44 (8 * (3 * q + t) + r) = 0)) r
          simp only [u_eC, u_eV, u_eF, u_eR, u_eI, u_eL, u_eB, u_eD, u_eM, u_eU, u_aN, u_aC, u_eK, u_eT, u_cLt, u_cLe, u_cGt, u_cGe, u_cEq, u_cNe, u_cAnd, u_cOr, u_cNot, u_zN, u_zS, u_zD, u_zL, u_zI, u_zB, u_zP, u_zF, u_zA, u_zU, u_zC, u_zR, u_zRZ, u_zRC, u_zRV, u_zT, u_zE, u_zK, u_zY, ho_nid, List.getD_cons_zero, List.getD_cons_succ, List.set_cons_zero, List.set_cons_succ, List.cons_append, List.nil_append, List.take_succ_cons, List.take_zero, Int.reduceToNat, Int.toNat_natCast, nN_0, nN_1, nN_2, nN_3, nN_4, nN_5, nN_6, nN_7, nN_8, nN_9, nN_10, nN_11, nN_12, nN_13, nN_14, nN_15, nN_16, nN_17, nN_18, nN_19, nN_20, nN_21, nN_22, nN_23, nN_24, nN_25, nN_26, nN_27, nN_28, nN_29, nN_30, nN_31, nN_32, nN_33, nN_34, nN_35, nN_36, nN_37, nN_38, nN_39, nN_40, nN_41, nN_42, nN_43, nN_44, nN_45, nN_46, nN_47, nN_48, nN_49, nN_50, nN_51, nN_52, nN_53, nN_54, nR_0_0, nR_0_1, nR_0_2, nR_0_3, nR_0_4, nR_0_5, nR_0_6, nR_0_7, nR_0_8, nR_0_9, nR_0_10, nR_1_0, nR_1_1, nR_1_2, nR_1_3, nR_1_4, nR_2_0, nR_2_1, nR_2_2, nR_2_3, nR_2_4, nR_3_0, nR_3_1, nR_4_2, nR_5_2, nR_6_0, nR_6_1, nR_6_2, nR_7_0, nR_30_2, nR_30_3, nR_30_4, nR_30_6, nR_30_7, nR_30_9, nR_30_10, nR_30_11, nR_30_12, nR_30_13, nR_30_14, nR_30_15, nR_30_16, nR_30_18, nR_30_19, nR_30_20, nR_30_21, nR_30_22, nR_30_23, nR_30_24, nR_30_28, nR_30_29, nR_30_31, inc (show r < 100000 by omega), mIdx (show q < 16 by omega) (show t < 3 by omega)]
          refine ⟨fun c3 => ?_, fun c3 => hE3 _ ?_⟩
          · have ix : ho_oadd (ho_omul 8 ((3 * q + t : Nat) : Int)) (r : Int) = ((8 * (3 * q + t) + r : Nat) : Int) := by
              rw [wmu (by omega) (by omega), wad (by omega) (by omega)]; omega
            rw [ix]
            clear ix
            have sb : (ho_oand (ho_oshr (B q) (r : Int)) 1 = 1) ↔ bit (B q) r = true := by
              rw [hx]; exact shr_bit (by omega) (by omega)
            simp only [ne_eq, sb]
            clear sb
            have e44 : σ3 44 = σ 44 := sm_fn sτ2 44 (fun _ => rfl)
            simp only [mR_30_2, mR_30_3, mR_30_4, mR_30_6, mR_30_7, mR_30_9, mR_30_10, mR_30_11, mR_30_12, mR_30_13, mR_30_14, mR_30_15, mR_30_16, mR_30_18, mR_30_19, mR_30_20, mR_30_21, mR_30_22, mR_30_23, mR_30_24, mR_30_28, mR_30_29, mR_30_31, mR_0_9, mR_7_0, nN_25, nN_26, nN_27, nN_28, nN_29, nN_30, nN_31, nN_32, nN_33, nN_34, nN_35, nN_36, nN_37, nN_38, nN_39, nN_40, nN_41, nN_42, nN_43, nN_44, nN_45, nN_46, nN_47, nN_48, nN_49, nN_50, nN_51, nN_52, nN_53, nN_54, Int.toNat_natCast, e44]
            have nx : ∀ y : Int, y = sm9 q + cnt (fun r => bit (B q) r && decide (σ 44 (8 * (3 * q + t) + r) = 0)) (r + 1) → K3 [30, (t : Int), y, (q : Int), B q, ((r + 1 : Nat) : Int)] σ3 := fun y e => hK3 _ _ (8 - (r + 1)) (by omega) ⟨r + 1, by omega, by rw [e], rfl, rfl⟩
            have st9 : cnt (fun r => bit (B q) r && decide (σ 44 (8 * (3 * q + t) + r) = 0)) (r + 1) = cnt (fun r => bit (B q) r && decide (σ 44 (8 * (3 * q + t) + r) = 0)) r + (if (bit (B q) r && decide (σ 44 (8 * (3 * q + t) + r) = 0)) = true then 1 else 0) := rfl
            have no : ¬ (bit (B q) r && decide (σ 44 (8 * (3 * q + t) + r) = 0)) = true → K3 [30, (t : Int), ho_oadd (sm9 q + cnt (fun r => bit (B q) r && decide (σ 44 (8 * (3 * q + t) + r) = 0)) r) 0, (q : Int), B q, ((r + 1 : Nat) : Int)] σ3 := fun z => nx _ (by rw [wad (by omega) (by omega), st9, if_neg z]; omega)
            refine ⟨fun d => ⟨by omega, fun d2 => nx _ ?_, fun d2 => no ?_⟩, fun d => no ?_⟩
            · rw [wad (by omega) (by omega), st9, if_pos (by rw [d, decide_eq_true d2]; rfl)]; omega
            · rw [decide_eq_false d2]; simp
            · rw [Bool.not_eq_true] at d
              rw [d]; simp
          · have hr8 : r = 8 := by omega
            subst hr8
            rw [← hfc]
            exact hQ9
        refine inner _ ?_
        simp only [u_eC, u_eV, u_eF, u_eR, u_eI, u_eL, u_eB, u_eD, u_eM, u_eU, u_aN, u_aC, u_eK, u_eT, u_cLt, u_cLe, u_cGt, u_cGe, u_cEq, u_cNe, u_cAnd, u_cOr, u_cNot, u_zN, u_zS, u_zD, u_zL, u_zI, u_zB, u_zP, u_zF, u_zA, u_zU, u_zC, u_zR, u_zRZ, u_zRC, u_zRV, u_zT, u_zE, u_zK, u_zY, ho_nid, List.getD_cons_zero, List.getD_cons_succ, List.set_cons_zero, List.set_cons_succ, List.cons_append, List.nil_append, List.take_succ_cons, List.take_zero, Int.reduceToNat, Int.toNat_natCast, nN_0, nN_1, nN_2, nN_3, nN_4, nN_5, nN_6, nN_7, nN_8, nN_9, nN_10, nN_11, nN_12, nN_13, nN_14, nN_15, nN_16, nN_17, nN_18, nN_19, nN_20, nN_21, nN_22, nN_23, nN_24, nN_25, nN_26, nN_27, nN_28, nN_29, nN_30, nN_31, nN_32, nN_33, nN_34, nN_35, nN_36, nN_37, nN_38, nN_39, nN_40, nN_41, nN_42, nN_43, nN_44, nN_45, nN_46, nN_47, nN_48, nN_49, nN_50, nN_51, nN_52, nN_53, nN_54, nR_0_0, nR_0_1, nR_0_2, nR_0_3, nR_0_4, nR_0_5, nR_0_6, nR_0_7, nR_0_8, nR_0_9, nR_0_10, nR_1_0, nR_1_1, nR_1_2, nR_1_3, nR_1_4, nR_2_0, nR_2_1, nR_2_2, nR_2_3, nR_2_4, nR_3_0, nR_3_1, nR_4_2, nR_5_2, nR_6_0, nR_6_1, nR_6_2, nR_7_0, nR_30_2, nR_30_3, nR_30_4, nR_30_6, nR_30_7, nR_30_9, nR_30_10, nR_30_11, nR_30_12, nR_30_13, nR_30_14, nR_30_15, nR_30_16, nR_30_18, nR_30_19, nR_30_20, nR_30_21, nR_30_22, nR_30_23, nR_30_24, nR_30_28, nR_30_29, nR_30_31, inc (show q < 100000 by omega)]
        rw [← hs1]
        exact hK2 _ _ (k - (q + 1)) (by omega) ⟨q + 1, by omega, rfl, rfl, sτ2, (sr2 30 0 rfl).trans z2, (sr2 54 0 rfl).trans w2⟩
      · have hqk : q = k := by omega
        subst hqk
        exact ⟨z2, w2, Inv_sc hj hI0 s2⟩
  · rw [if_neg ct]
    refine ⟨trivial, ?_⟩
    simp only [mX7_faults, fX7_faults, u_eC, u_eV, u_eF, u_eR, u_eI, u_eL, u_eB, u_eD, u_eM, u_eU, u_aN, u_aC, u_eK, u_eT, u_cLt, u_cLe, u_cGt, u_cGe, u_cEq, u_cNe, u_cAnd, u_cOr, u_cNot, u_zN, u_zS, u_zD, u_zL, u_zI, u_zB, u_zP, u_zF, u_zA, u_zU, u_zC, u_zR, u_zRZ, u_zRC, u_zRV, u_zT, u_zE, u_zK, u_zY, ho_nid, List.getD_cons_zero, List.getD_cons_succ, List.set_cons_zero, List.set_cons_succ, List.cons_append, List.nil_append, List.take_succ_cons, List.take_zero, Int.reduceToNat, Int.toNat_natCast, nN_0, nN_1, nN_2, nN_3, nN_4, nN_5, nN_6, nN_7, nN_8, nN_9, nN_10, nN_11, nN_12, nN_13, nN_14, nN_15, nN_16, nN_17, nN_18, nN_19, nN_20, nN_21, nN_22, nN_23, nN_24, nN_25, nN_26, nN_27, nN_28, nN_29, nN_30, nN_31, nN_32, nN_33, nN_34, nN_35, nN_36, nN_37, nN_38, nN_39, nN_40, nN_41, nN_42, nN_43, nN_44, nN_45, nN_46, nN_47, nN_48, nN_49, nN_50, nN_51, nN_52, nN_53, nN_54, nR_0_0, nR_0_1, nR_0_2, nR_0_3, nR_0_4, nR_0_5, nR_0_6, nR_0_7, nR_0_8, nR_0_9, nR_0_10, nR_1_0, nR_1_1, nR_1_2, nR_1_3, nR_1_4, nR_2_0, nR_2_1, nR_2_2, nR_2_3, nR_2_4, nR_3_0, nR_3_1, nR_4_2, nR_5_2, nR_6_0, nR_6_1, nR_6_2, nR_7_0, nR_30_2, nR_30_3, nR_30_4, nR_30_6, nR_30_7, nR_30_9, nR_30_10, nR_30_11, nR_30_12, nR_30_13, nR_30_14, nR_30_15, nR_30_16, nR_30_18, nR_30_19, nR_30_20, nR_30_21, nR_30_22, nR_30_23, nR_30_24, nR_30_28, nR_30_29, nR_30_31, sp_in, zlt, zle, zl1, zl2, zl3, z1l, z2l, z3l, z1e, z2e, z3e, z1n, z2n, z3n, z0n, z0e, true_implies, false_implies, and_true, true_and, ho_upE, bI_ne, bI_eq, true_or, or_true]
    refine ⟨fun w => absurd w (by omega), fun _ => ?_⟩
    refine zW_rule (fun v σ2 m => v = [30, t, 0, 0] ∧ σ2 = ho_up σ 30 0 1 ∧ m = 0) _ ⟨rfl, rfl, rfl⟩ ?_
    rintro v σ2 m ⟨rfl, rfl, rfl⟩ K2 KE2 hK2 hE2
    simp only [u_eC, u_eV, u_eF, u_eR, u_eI, u_eL, u_eB, u_eD, u_eM, u_eU, u_aN, u_aC, u_eK, u_eT, u_cLt, u_cLe, u_cGt, u_cGe, u_cEq, u_cNe, u_cAnd, u_cOr, u_cNot, u_zN, u_zS, u_zD, u_zL, u_zI, u_zB, u_zP, u_zF, u_zA, u_zU, u_zC, u_zR, u_zRZ, u_zRC, u_zRV, u_zT, u_zE, u_zK, u_zY, ho_nid, List.getD_cons_zero, List.getD_cons_succ, List.set_cons_zero, List.set_cons_succ, List.cons_append, List.nil_append, List.take_succ_cons, List.take_zero, Int.reduceToNat, Int.toNat_natCast, nN_0, nN_1, nN_2, nN_3, nN_4, nN_5, nN_6, nN_7, nN_8, nN_9, nN_10, nN_11, nN_12, nN_13, nN_14, nN_15, nN_16, nN_17, nN_18, nN_19, nN_20, nN_21, nN_22, nN_23, nN_24, nN_25, nN_26, nN_27, nN_28, nN_29, nN_30, nN_31, nN_32, nN_33, nN_34, nN_35, nN_36, nN_37, nN_38, nN_39, nN_40, nN_41, nN_42, nN_43, nN_44, nN_45, nN_46, nN_47, nN_48, nN_49, nN_50, nN_51, nN_52, nN_53, nN_54, nR_0_0, nR_0_1, nR_0_2, nR_0_3, nR_0_4, nR_0_5, nR_0_6, nR_0_7, nR_0_8, nR_0_9, nR_0_10, nR_1_0, nR_1_1, nR_1_2, nR_1_3, nR_1_4, nR_2_0, nR_2_1, nR_2_2, nR_2_3, nR_2_4, nR_3_0, nR_3_1, nR_4_2, nR_5_2, nR_6_0, nR_6_1, nR_6_2, nR_7_0, nR_30_2, nR_30_3, nR_30_4, nR_30_6, nR_30_7, nR_30_9, nR_30_10, nR_30_11, nR_30_12, nR_30_13, nR_30_14, nR_30_15, nR_30_16, nR_30_18, nR_30_19, nR_30_20, nR_30_21, nR_30_22, nR_30_23, nR_30_24, nR_30_28, nR_30_29, nR_30_31, zlt, zle, zl1, zl2, zl3, z1l, z2l, z3l, z1e, z2e, z3e, z1n, z2n, z3n, z0n, z0e, true_implies, false_implies, and_true, true_and, ho_upE, bI_ne, bI_eq, true_or, or_true]
    exact ⟨fun _ => hE2 _ ⟨ho_upE, Inv_sc hj hI0 (sm_up sm_rf rfl)⟩, fun _ => hE2 _ ⟨ho_upE, Inv_sc hj hI0 (sm_up sm_rf rfl)⟩⟩
