theorem op_setLook {j : Nat} {σ : ho_S} {p l : Int} (hj : j < 512) (hI : hi_Inv j σ) : mX6_setLook [0, p, l] σ (fun a σ => mX7_setLook [30, p, l] (ho_up σ 54 0 a) (fun b σ => σ 30 0 = 0 ∧ σ 54 0 = b ∧ hi_Inv (j + 1) σ) (fun _ _ => False)) (fun ec σ => (ec = 2 ∧ mX7_setLook [30, p, l] σ (fun _ σ => σ 30 0 = 1 ∧ hi_Inv (j + 1) σ) (fun _ _ => False)) ∨ (ec = 0 ∧ mX7_setLook [30, p, l] σ (fun _ σ => σ 30 0 = 2 ∧ hi_Inv (j + 1) σ) (fun _ _ => False))) := by
  have hI0 := hI
  obtain ⟨_, S, N, M, h1, h2, h3, h4, h5, h6, h7, h8, h9, h10, h11, h12, h13⟩ := hI
  have hM := h1.2.2.2.2.2.2
  have hN : N ≤ 4800 := by have := h2.1; have := h2.2.1; omega
  simp only [mX6_setLook, fX6_setLook, u_eC, u_eV, u_eF, u_eR, u_eI, u_eL, u_eB, u_eD, u_eM, u_eU, u_aN, u_aC, u_eK, u_eT, u_cLt, u_cLe, u_cGt, u_cGe, u_cEq, u_cNe, u_cAnd, u_cOr, u_cNot, u_zN, u_zS, u_zD, u_zL, u_zI, u_zB, u_zP, u_zF, u_zA, u_zU, u_zC, u_zR, u_zRZ, u_zRC, u_zRV, u_zT, u_zE, u_zK, u_zY, ho_nid, List.getD_cons_zero, List.getD_cons_succ, List.set_cons_zero, List.set_cons_succ, List.cons_append, List.nil_append, List.take_succ_cons, List.take_zero, Int.reduceToNat, Int.toNat_natCast, nN_0, nN_1, nN_2, nN_3, nN_4, nN_5, nN_6, nN_7, nN_8, nN_9, nN_10, nN_11, nN_12, nN_13, nN_14, nN_15, nN_16, nN_17, nN_18, nN_19, nN_20, nN_21, nN_22, nN_23, nN_24, nN_25, nN_26, nN_27, nN_28, nN_29, nN_30, nN_31, nN_32, nN_33, nN_34, nN_35, nN_36, nN_37, nN_38, nN_39, nN_40, nN_41, nN_42, nN_43, nN_44, nN_45, nN_46, nN_47, nN_48, nN_49, nN_50, nN_51, nN_52, nN_53, nN_54, nR_0_0, nR_0_1, nR_0_2, nR_0_3, nR_0_4, nR_0_5, nR_0_6, nR_0_7, nR_0_8, nR_0_9, nR_0_10, nR_1_0, nR_1_1, nR_1_2, nR_1_3, nR_1_4, nR_2_0, nR_2_1, nR_2_2, nR_2_3, nR_2_4, nR_3_0, nR_3_1, nR_4_2, nR_5_2, nR_6_0, nR_6_1, nR_6_2, nR_7_0, nR_30_2, nR_30_3, nR_30_4, nR_30_6, nR_30_7, nR_30_9, nR_30_10, nR_30_11, nR_30_12, nR_30_13, nR_30_14, nR_30_15, nR_30_16, nR_30_18, nR_30_19, nR_30_20, nR_30_21, nR_30_22, nR_30_23, nR_30_24, nR_30_28, nR_30_29, nR_30_31, sp_needCaption, h1.2.2.2.2.1]
  have thr1 : ¬ (0 ≤ p ∧ p < (M : Int)) → mX7_setLook [30, p, l] σ (fun _ σ => σ 30 0 = 1 ∧ hi_Inv (j + 1) σ) (fun _ _ => False) := by
    intro z
    simp only [mX7_setLook, fX7_setLook, u_eC, u_eV, u_eF, u_eR, u_eI, u_eL, u_eB, u_eD, u_eM, u_eU, u_aN, u_aC, u_eK, u_eT, u_cLt, u_cLe, u_cGt, u_cGe, u_cEq, u_cNe, u_cAnd, u_cOr, u_cNot, u_zN, u_zS, u_zD, u_zL, u_zI, u_zB, u_zP, u_zF, u_zA, u_zU, u_zC, u_zR, u_zRZ, u_zRC, u_zRV, u_zT, u_zE, u_zK, u_zY, ho_nid, List.getD_cons_zero, List.getD_cons_succ, List.set_cons_zero, List.set_cons_succ, List.cons_append, List.nil_append, List.take_succ_cons, List.take_zero, Int.reduceToNat, Int.toNat_natCast, nN_0, nN_1, nN_2, nN_3, nN_4, nN_5, nN_6, nN_7, nN_8, nN_9, nN_10, nN_11, nN_12, nN_13, nN_14, nN_15, nN_16, nN_17, nN_18, nN_19, nN_20, nN_21, nN_22, nN_23, nN_24, nN_25, nN_26, nN_27, nN_28, nN_29, nN_30, nN_31, nN_32, nN_33, nN_34, nN_35, nN_36, nN_37, nN_38, nN_39, nN_40, nN_41, nN_42, nN_43, nN_44, nN_45, nN_46, nN_47, nN_48, nN_49, nN_50, nN_51, nN_52, nN_53, nN_54, nR_0_0, nR_0_1, nR_0_2, nR_0_3, nR_0_4, nR_0_5, nR_0_6, nR_0_7, nR_0_8, nR_0_9, nR_0_10, nR_1_0, nR_1_1, nR_1_2, nR_1_3, nR_1_4, nR_2_0, nR_2_1, nR_2_2, nR_2_3, nR_2_4, nR_3_0, nR_3_1, nR_4_2, nR_5_2, nR_6_0, nR_6_1, nR_6_2, nR_7_0, nR_30_2, nR_30_3, nR_30_4, nR_30_6, nR_30_7, nR_30_9, nR_30_10, nR_30_11, nR_30_12, nR_30_13, nR_30_14, nR_30_15, nR_30_16, nR_30_18, nR_30_19, nR_30_20, nR_30_21, nR_30_22, nR_30_23, nR_30_24, nR_30_28, nR_30_29, nR_30_31, sp_in, sp_isCaption (σ := σ) (show 0 ≤ σ 30 8 by rw [h1.2.2.2.2.2.1]; omega) (show σ 30 8 ≤ 16 by rw [h1.2.2.2.2.2.1]; omega), zlt, zle, zl1, zl2, zl3, z1l, z2l, z3l, z1e, z2e, z3e, z1n, z2n, z3n, z0n, z0e, true_implies, false_implies, and_true, true_and, ho_upE, bI_ne, bI_eq, true_or, or_true, h1.2.2.2.2.2.1]
    exact ⟨fun y => absurd y z, fun _ => Inv_sc hj hI0 (sm_up sm_rf rfl)⟩
  have thr2 : (0 ≤ p ∧ p < (M : Int)) → ¬ (0 ≤ l ∧ l ≤ 3) → mX7_setLook [30, p, l] σ (fun _ σ => σ 30 0 = 2 ∧ hi_Inv (j + 1) σ) (fun _ _ => False) := by
    intro y z
    simp only [mX7_setLook, fX7_setLook, u_eC, u_eV, u_eF, u_eR, u_eI, u_eL, u_eB, u_eD, u_eM, u_eU, u_aN, u_aC, u_eK, u_eT, u_cLt, u_cLe, u_cGt, u_cGe, u_cEq, u_cNe, u_cAnd, u_cOr, u_cNot, u_zN, u_zS, u_zD, u_zL, u_zI, u_zB, u_zP, u_zF, u_zA, u_zU, u_zC, u_zR, u_zRZ, u_zRC, u_zRV, u_zT, u_zE, u_zK, u_zY, ho_nid, List.getD_cons_zero, List.getD_cons_succ, List.set_cons_zero, List.set_cons_succ, List.cons_append, List.nil_append, List.take_succ_cons, List.take_zero, Int.reduceToNat, Int.toNat_natCast, nN_0, nN_1, nN_2, nN_3, nN_4, nN_5, nN_6, nN_7, nN_8, nN_9, nN_10, nN_11, nN_12, nN_13, nN_14, nN_15, nN_16, nN_17, nN_18, nN_19, nN_20, nN_21, nN_22, nN_23, nN_24, nN_25, nN_26, nN_27, nN_28, nN_29, nN_30, nN_31, nN_32, nN_33, nN_34, nN_35, nN_36, nN_37, nN_38, nN_39, nN_40, nN_41, nN_42, nN_43, nN_44, nN_45, nN_46, nN_47, nN_48, nN_49, nN_50, nN_51, nN_52, nN_53, nN_54, nR_0_0, nR_0_1, nR_0_2, nR_0_3, nR_0_4, nR_0_5, nR_0_6, nR_0_7, nR_0_8, nR_0_9, nR_0_10, nR_1_0, nR_1_1, nR_1_2, nR_1_3, nR_1_4, nR_2_0, nR_2_1, nR_2_2, nR_2_3, nR_2_4, nR_3_0, nR_3_1, nR_4_2, nR_5_2, nR_6_0, nR_6_1, nR_6_2, nR_7_0, nR_30_2, nR_30_3, nR_30_4, nR_30_6, nR_30_7, nR_30_9, nR_30_10, nR_30_11, nR_30_12, nR_30_13, nR_30_14, nR_30_15, nR_30_16, nR_30_18, nR_30_19, nR_30_20, nR_30_21, nR_30_22, nR_30_23, nR_30_24, nR_30_28, nR_30_29, nR_30_31, sp_in, sp_isCaption (σ := σ) (show 0 ≤ σ 30 8 by rw [h1.2.2.2.2.2.1]; omega) (show σ 30 8 ≤ 16 by rw [h1.2.2.2.2.2.1]; omega), zlt, zle, zl1, zl2, zl3, z1l, z2l, z3l, z1e, z2e, z3e, z1n, z2n, z3n, z0n, z0e, true_implies, false_implies, and_true, true_and, ho_upE, bI_ne, bI_eq, true_or, or_true, h1.2.2.2.2.2.1]
    exact ⟨fun _ => ⟨fun w => absurd w z, fun _ => Inv_sc hj hI0 (sm_up sm_rf rfl)⟩, fun w => absurd y w⟩
  by_cases cp : 0 ≤ p ∧ p < (M : Int)
  · rw [if_pos cp]
    refine ⟨fun z => Or.inr ⟨by trivial, thr2 cp (by omega)⟩, fun z1 => ⟨fun z => Or.inr ⟨by trivial, thr2 cp (by omega)⟩, fun z2 => ?_⟩⟩
    obtain ⟨c, rfl⟩ : ∃ q : Nat, p = (q : Int) := ⟨p.toNat, by omega⟩
    refine sp_item.mpr ?_
    have k9 := h7 c (by omega)
    rw [gi26 (by omega)]
    have model : ∀ τ : ho_S, (sm pNk σ τ) → τ 36 = σ 36 → τ 44 = σ 44 → τ 54 0 = σ 26 c → (∀ i, i < 384 → τ 27 i = if l ≠ σ 26 c then fgn (σ 27) (3 * c) 3 i else σ 27 i) → (∀ i, τ 26 i = if i = c then l else σ 26 i) → mX7_setLook [30, (c : Int), l] τ (fun b σ => σ 30 0 = 0 ∧ σ 54 0 = b ∧ hi_Inv (j + 1) σ) (fun _ _ => False) := by
      intro τ s a36 a44 a54 a27 a26
      have m8 : τ 30 8 = (M : Int) := (s 30 8 rfl).trans h1.2.2.2.2.2.1
      simp only [mX7_setLook, fX7_setLook, u_eC, u_eV, u_eF, u_eR, u_eI, u_eL, u_eB, u_eD, u_eM, u_eU, u_aN, u_aC, u_eK, u_eT, u_cLt, u_cLe, u_cGt, u_cGe, u_cEq, u_cNe, u_cAnd, u_cOr, u_cNot, u_zN, u_zS, u_zD, u_zL, u_zI, u_zB, u_zP, u_zF, u_zA, u_zU, u_zC, u_zR, u_zRZ, u_zRC, u_zRV, u_zT, u_zE, u_zK, u_zY, ho_nid, List.getD_cons_zero, List.getD_cons_succ, List.set_cons_zero, List.set_cons_succ, List.cons_append, List.nil_append, List.take_succ_cons, List.take_zero, Int.reduceToNat, Int.toNat_natCast, nN_0, nN_1, nN_2, nN_3, nN_4, nN_5, nN_6, nN_7, nN_8, nN_9, nN_10, nN_11, nN_12, nN_13, nN_14, nN_15, nN_16, nN_17, nN_18, nN_19, nN_20, nN_21, nN_22, nN_23, nN_24, nN_25, nN_26, nN_27, nN_28, nN_29, nN_30, nN_31, nN_32, nN_33, nN_34, nN_35, nN_36, nN_37, nN_38, nN_39, nN_40, nN_41, nN_42, nN_43, nN_44, nN_45, nN_46, nN_47, nN_48, nN_49, nN_50, nN_51, nN_52, nN_53, nN_54, nR_0_0, nR_0_1, nR_0_2, nR_0_3, nR_0_4, nR_0_5, nR_0_6, nR_0_7, nR_0_8, nR_0_9, nR_0_10, nR_1_0, nR_1_1, nR_1_2, nR_1_3, nR_1_4, nR_2_0, nR_2_1, nR_2_2, nR_2_3, nR_2_4, nR_3_0, nR_3_1, nR_4_2, nR_5_2, nR_6_0, nR_6_1, nR_6_2, nR_7_0, nR_30_2, nR_30_3, nR_30_4, nR_30_6, nR_30_7, nR_30_9, nR_30_10, nR_30_11, nR_30_12, nR_30_13, nR_30_14, nR_30_15, nR_30_16, nR_30_18, nR_30_19, nR_30_20, nR_30_21, nR_30_22, nR_30_23, nR_30_24, nR_30_28, nR_30_29, nR_30_31, sp_in, sp_isCaption (σ := τ) (show 0 ≤ τ 30 8 by rw [m8]; omega) (show τ 30 8 ≤ 16 by rw [m8]; omega), zlt, zle, zl1, zl2, zl3, z1l, z2l, z3l, z1e, z2e, z3e, z1n, z2n, z3n, z0n, z0e, true_implies, false_implies, and_true, true_and, ho_upE, bI_ne, bI_eq, true_or, or_true, m8]
      refine ⟨fun _ => ⟨fun _ => ?_, fun w => absurd (show 0 ≤ l ∧ l ≤ 3 by omega) w⟩, fun w => absurd cp w⟩
      simp only [mR_30_2, mR_30_3, mR_30_4, mR_30_6, mR_30_7, mR_30_9, mR_30_10, mR_30_11, mR_30_12, mR_30_13, mR_30_14, mR_30_15, mR_30_16, mR_30_18, mR_30_19, mR_30_20, mR_30_21, mR_30_22, mR_30_23, mR_30_24, mR_30_28, mR_30_29, mR_30_31, mR_0_9, mR_7_0, nN_25, nN_26, nN_27, nN_28, nN_29, nN_30, nN_31, nN_32, nN_33, nN_34, nN_35, nN_36, nN_37, nN_38, nN_39, nN_40, nN_41, nN_42, nN_43, nN_44, nN_45, nN_46, nN_47, nN_48, nN_49, nN_50, nN_51, nN_52, nN_53, nN_54, Int.toNat_natCast, saF, saE, ho_upF, ho_upE, ne_eq, not_false_eq_true, Nat.reduceEqDiff, a36]
      have kk : ∀ υ : ho_S, (∀ i, υ 26 i = if i = c then l else σ 26 i) → (∀ i, υ 36 i = if i = c then l else σ 36 i) → GK υ := by
        intro υ u1 u2 i hi
        rw [u1, u2]
        by_cases z : i = c
        · rw [if_pos z, if_pos z]; exact ⟨rfl, by omega, by omega⟩
        · rw [if_neg z, if_neg z]; exact h7 i hi
      refine ⟨by omega, by omega, fun d => ?_, fun d => ?_⟩
      · refine sp_forgetsAll (by omega) ?_
        obtain ⟨υ, hυ⟩ : ∃ υ, υ = sa (ho_up (ho_up τ 30 0 0) 36 c l) 44 (fgn ((ho_up (ho_up τ 30 0 0) 36 c l) 44) (3 * c) 3) := ⟨_, rfl⟩
        have u44 : υ 44 = fgn (σ 44) (3 * c) 3 := by rw [hυ, saE, show (ho_up (ho_up τ 30 0 0) 36 c l) 44 = τ 44 from rfl, a44]
        have u27 : υ 27 = τ 27 := by rw [hυ]; rfl
        have u26 : υ 26 = τ 26 := by rw [hυ]; rfl
        have u36 : ∀ i, υ 36 i = if i = c then l else σ 36 i := fun i => by
          rw [hυ]
          show ho_up (ho_up τ 30 0 0) 36 c l 36 i = _
          rw [ho_upA]
          show (if _ then _ else τ 36 i) = _
          rw [a36]
        have u30 : υ 30 0 = 0 := by
          rw [hυ]
          show ho_up τ 30 0 0 30 0 = 0
          exact ho_upE
        have u54 : υ 54 0 = τ 54 0 := by rw [hυ]; rfl
        have us : sm pNk σ υ := by rw [hυ]; exact sm_sa (sm_up (sm_up s rfl) rfl) (fun _ => rfl)
        rw [← hυ]
        refine ⟨u30, by rw [u54, a54]; exact k9.1, Inv_nk hj hI0 us (fun i hi => ?_) (kk υ (fun i => by rw [u26]; exact a26 i) u36)⟩
        rw [u27, u44, a27 i hi, if_pos (show l ≠ σ 26 c by rw [k9.1]; exact fun w => d w.symm)]
        unfold fgn
        rw [h10 i hi]
      · have dl : l = σ 26 c := by rw [k9.1]; exact d.symm
        refine ⟨trivial, ?_, Inv_nk hj hI0 (sm_up (sm_up s rfl) rfl) (fun i hi => ?_) (kk _ a26 (fun i => ?_))⟩
        · show τ 54 0 = _
          rw [a54]; exact k9.1
        · show τ 27 i = τ 44 i
          rw [a27 i hi, a44, if_neg (fun w => w dl)]; exact h10 i hi
        · rw [ho_upA]
          show (if _ then _ else τ 36 i) = _
          rw [a36]
    refine ⟨fun d => ?_, fun d => ?_⟩
    · refine sp_store.mpr ?_
      rw [si26 (by omega)]
      refine sp_forgetAllNames (by omega) ?_
      refine tau (fun τ sτ τ54 eτ => ?_)
      have es : ∀ k, k ≠ 54 → k ≠ 26 → k ≠ 27 → τ k = σ k := fun k a b e => by rw [eτ k a, saF e, ho_upF b]
      refine model τ (sm_tr (sm_sa (sm_up sm_rf rfl) (fun _ => rfl)) (sm_w sτ pNk_sc)) (es 36 (by omega) (by omega) (by omega)) (es 44 (by omega) (by omega) (by omega)) τ54 (fun i _ => ?_) (fun i => ?_)
      · rw [if_pos d, eτ 27 (by omega), saE]; rfl
      · rw [eτ 26 (by omega), saF (by omega), ho_upA]
    · refine tau (fun τ sτ τ54 eτ => ?_)
      refine model τ (sm_w sτ pNk_sc) (eτ 36 (by omega)) (eτ 44 (by omega)) τ54 (fun i _ => ?_) (fun i => ?_)
      · rw [if_neg (fun w => w d), eτ 27 (by omega)]
      · rw [eτ 26 (by omega)]
        by_cases z : i = c
        · rw [if_pos z, z]; exact d.symm
        · rw [if_neg z]
  · rw [if_neg cp]
    exact Or.inl ⟨by trivial, thr1 cp⟩

theorem sp_noteChange {c t : Nat} {σ : ho_S} {Q : ho_K} {X : ho_X} (hc : c < 16) (ht : t < 3) (h : ∀ σ', sm (fun k _ => Nat.beq k 27 || Nat.beq k 28) σ σ' → σ' 27 = fgn (σ 27) (3 * c + t) 1 → (∀ i, σ' 28 i = if i = 3 * c + t then 0 else if t = 0 ∧ (i = 3 * c + 1 ∨ i = 3 * c + 2) then 1 else σ 28 i) → Q 0 σ') : mX6_noteChange [0, (c : Int), (t : Int)] σ Q X := by
  have n0 : ho_nz 0 = 0 := by decide +kernel
  have n1 : ho_nz 1 = 1 := by decide +kernel
  have x1 : ho_w (ho_w ((c : Int) * 3) + 1) = ((3 * c + 1 : Nat) : Int) := o3c (t := 1) (by omega) (by omega)
  have x2 : ho_w (ho_w ((c : Int) * 3) + 2) = ((3 * c + 2 : Nat) : Int) := o3c (t := 2) (by omega) (by omega)
  simp only [mX6_noteChange, fX6_noteChange, u_eC, u_eV, u_eF, u_eR, u_eI, u_eL, u_eB, u_eD, u_eM, u_eU, u_aN, u_aC, u_eK, u_eT, u_cLt, u_cLe, u_cGt, u_cGe, u_cEq, u_cNe, u_cAnd, u_cOr, u_cNot, u_zN, u_zS, u_zD, u_zL, u_zI, u_zB, u_zP, u_zF, u_zA, u_zU, u_zC, u_zR, u_zRZ, u_zRC, u_zRV, u_zT, u_zE, u_zK, u_zY, ho_nid, List.getD_cons_zero, List.getD_cons_succ, List.set_cons_zero, List.set_cons_succ, List.cons_append, List.nil_append, List.take_succ_cons, List.take_zero, Int.reduceToNat, Int.toNat_natCast, nN_0, nN_1, nN_2, nN_3, nN_4, nN_5, nN_6, nN_7, nN_8, nN_9, nN_10, nN_11, nN_12, nN_13, nN_14, nN_15, nN_16, nN_17, nN_18, nN_19, nN_20, nN_21, nN_22, nN_23, nN_24, nN_25, nN_26, nN_27, nN_28, nN_29, nN_30, nN_31, nN_32, nN_33, nN_34, nN_35, nN_36, nN_37, nN_38, nN_39, nN_40, nN_41, nN_42, nN_43, nN_44, nN_45, nN_46, nN_47, nN_48, nN_49, nN_50, nN_51, nN_52, nN_53, nN_54, nR_0_0, nR_0_1, nR_0_2, nR_0_3, nR_0_4, nR_0_5, nR_0_6, nR_0_7, nR_0_8, nR_0_9, nR_0_10, nR_1_0, nR_1_1, nR_1_2, nR_1_3, nR_1_4, nR_2_0, nR_2_1, nR_2_2, nR_2_3, nR_2_4, nR_3_0, nR_3_1, nR_4_2, nR_5_2, nR_6_0, nR_6_1, nR_6_2, nR_7_0, nR_30_2, nR_30_3, nR_30_4, nR_30_6, nR_30_7, nR_30_9, nR_30_10, nR_30_11, nR_30_12, nR_30_13, nR_30_14, nR_30_15, nR_30_16, nR_30_18, nR_30_19, nR_30_20, nR_30_21, nR_30_22, nR_30_23, nR_30_24, nR_30_28, nR_30_29, nR_30_31, sp_textOf, o3c (show c < 1000 by omega) (show t < 1000 by omega), x1, x2, sp_setBehind (show 3 * c + t < 48 by omega), n0]
  clear x1 x2 n0
  refine sp_forgetNames (by omega) ?_
  obtain ⟨σ1, h1⟩ : ∃ σ1, σ1 = sa (ho_up σ 28 (3 * c + t) 0) 27 (fgn (ho_up σ 28 (3 * c + t) 0 27) (3 * c + t) 1) := ⟨_, rfl⟩
  have s1 : sm (fun k _ => Nat.beq k 27 || Nat.beq k 28) σ σ1 := by rw [h1]; exact sm_sa (sm_up sm_rf rfl) (fun _ => rfl)
  have e27 : σ1 27 = fgn (σ 27) (3 * c + t) 1 := by rw [h1, saE, ho_upF (show (27 : Nat) ≠ 28 by decide)]
  have e28 : ∀ i, σ1 28 i = if i = 3 * c + t then 0 else σ 28 i := fun i => by rw [h1, saF (show (28 : Nat) ≠ 27 by decide), ho_upA]
  rw [← h1]
  clear h1
  refine ⟨fun z => ?_, fun z => h σ1 s1 e27 (fun i => ?_)⟩
  · have t0 : t = 0 := by omega
    refine (sp_setBehind (by omega)).mpr ?_
    refine (sp_setBehind (by omega)).mpr ?_
    rw [n1]
    refine h _ (sm_up (sm_up s1 rfl) rfl) e27 (fun i => ?_)
    rw [ho_upA, ho_upA, e28]
    by_cases y : i = 3 * c + 2
    · rw [if_pos y, if_neg (by omega), if_pos ⟨t0, Or.inr y⟩]
    · rw [if_neg y]
      by_cases w : i = 3 * c + 1
      · rw [if_pos w, if_neg (by omega), if_pos ⟨t0, Or.inl w⟩]
      · rw [if_neg w, if_neg (show ¬ (t = 0 ∧ (i = 3 * c + 1 ∨ i = 3 * c + 2)) from fun q => q.2.elim w y)]
  · rw [e28, if_neg (show ¬ (t = 0 ∧ (i = 3 * c + 1 ∨ i = 3 * c + 2)) by omega)]
def pTy (k j : Nat) : Bool := pSc k j || (Nat.beq k 18 || (Nat.beq k 19 || (Nat.beq k 27 || (Nat.beq k 28 || (Nat.beq k 41 || (Nat.beq k 42 || (Nat.beq k 43 || (Nat.beq k 44 || (Nat.beq k 30 && Nat.beq j 17)))))))))
theorem pTy_sc : ∀ k j, pSc k j = true → pTy k j = true := fun k j z => by unfold pTy; rw [z]; rfl
theorem pTy_nc : ∀ k j : Nat, (Nat.beq k 27 || Nat.beq k 28) = true → pTy k j = true := fun k j z => by
  unfold pTy
  cases a : Nat.beq k 27 <;> cases b : Nat.beq k 28 <;> simp [a, b] at z ⊢
theorem Inv_ty {σ υ : ho_S} {j c t : Nat} (hj : j < 512) (h : hi_Inv j σ) (hc : c < 16) (ht : t < 3) (s : sm pTy σ υ) (t1 : ∀ x, x < 80 → x ≠ 3 * c + t → tv (υ 18) (υ 19) x = tv (σ 18) (σ 19) x) (t2 : ∀ x, x < 48 → x ≠ 3 * c + t → tv (υ 42) (υ 41) x = tv (σ 42) (σ 41) x) (t3 : tv (υ 18) (υ 19) (3 * c + t) = tv (υ 42) (υ 41) (3 * c + t)) (t4 : 0 ≤ υ 19 (3 * c + t) ∧ υ 19 (3 * c + t) ≤ 60) (t5 : ∀ i, 0 ≤ tx (υ 18) (υ 19) (3 * c + t) i ∧ tx (υ 18) (υ 19) (3 * c + t) i ≤ 131071)
    (e17 : υ 30 17 = σ 30 17 + 1) (e43 : ∀ i, υ 43 i = if i = 3 * c + t then σ 30 17 + 1 else σ 43 i) (e27 : υ 27 = fgn (σ 27) (3 * c + t) 1) (e44 : υ 44 = fgn (σ 44) (3 * c + t) 1) (e28 : ∀ i, υ 28 i = if i = 3 * c + t then 0 else if t = 0 ∧ (i = 3 * c + 1 ∨ i = 3 * c + 2) then 1 else σ 28 i) : hi_Inv (j + 1) υ := by
  obtain ⟨_, S, N, M, h1, h2, h3, h4, h5, h6, h7, h8, h9, h10, h11, h12, h13⟩ := h
  have f1 : ∀ x, x < 80 → x ≠ 3 * c + t → υ 19 x = σ 19 x := fun x a b => congrArg Prod.fst (t1 x a b)
  have f2 : ∀ x, x < 80 → x ≠ 3 * c + t → tx (υ 18) (υ 19) x = tx (σ 18) (σ 19) x := fun x a b => congrArg Prod.snd (t1 x a b)
  have g1 : ∀ x, x < 48 → x ≠ 3 * c + t → υ 41 x = σ 41 x := fun x a b => congrArg Prod.fst (t2 x a b)
  have gm : ∀ m mo u O : Nat, GM j m mo u O σ → 48 ≤ O → O ≤ 64 → m < 2 → (∀ x, pTy mo x = false) → (∀ x, pTy u x = false) → GM (j + 1) m mo u O υ := fun m mo u O hG o1 o2 hm p1 p2 => by
    refine GM_of hG o2 hm (fun x => s mo x (p1 x)) (fun x => s u x (p2 x)) (fun x a b => t1 x (by omega) (by omega)) (s 45 m rfl) (fun r _ => ⟨?_, ?_, s 50 _ rfl⟩) (by omega)
    · rw [sm_fn s 46 (fun _ => rfl), sm_fn s 47 (fun _ => rfl)]
    · rw [sm_fn s 48 (fun _ => rfl), sm_fn s 49 (fun _ => rfl)]
  refine ⟨by omega, S, N, M, GS_sm h1 s ⟨rfl, rfl, rfl, rfl, rfl, rfl⟩, GF_sm h2 s (fun _ => ⟨rfl, rfl, rfl, rfl⟩), GPc_sm h3 s (fun _ => ⟨rfl, rfl, rfl⟩), GPm_sm h4 s (fun _ => ⟨rfl, rfl, rfl⟩), GL_sm h5 s (fun _ => ⟨rfl, rfl⟩), GT_sm h6 s (fun _ => ⟨rfl, rfl, rfl, rfl, rfl, rfl, rfl⟩), GK_sm h7 s (fun _ => ⟨rfl, rfl⟩), ⟨fun x hx => ?_, ⟨fun x hx => ?_, ?_⟩, fun x hx => ?_, fun x hx i => ?_⟩, ⟨fun c' hc' => ⟨?_, fun t' a b => ?_⟩, fun x hx => ?_, ?_, ?_⟩, fun i hi => ?_, gm 0 4 20 48 h11 (by omega) (by omega) (by omega) (fun _ => rfl) (fun _ => rfl), gm 1 5 21 64 h12 (by omega) (by omega) (by omega) (fun _ => rfl) (fun _ => rfl), GW_sm h13 s ⟨rfl, rfl, rfl, rfl⟩⟩
  · by_cases z : x = 3 * c + t
    · rw [z]; exact t4
    · rw [f1 x hx z]; exact h8.1 x hx
  · by_cases z : x = 3 * c + t
    · rw [z, ← show υ 19 (3 * c + t) = υ 41 (3 * c + t) from congrArg Prod.fst t3]; exact t4
    · rw [g1 x hx z]; exact h8.2.1.1 x hx
  · rw [sm_fn s 46 (fun _ => rfl), sm_fn s 48 (fun _ => rfl)]; exact h8.2.1.2
  · by_cases z : x = 3 * c + t
    · rw [z]; exact t3
    · rw [t1 x (by omega) z, t2 x hx z]; exact h8.2.2.1 x hx
  · by_cases z : x = 3 * c + t
    · rw [z]; exact t5 i
    · rw [f2 x hx z]; exact h8.2.2.2 x hx i
  · rw [e28]
    by_cases z : 3 * c' = 3 * c + t
    · rw [if_pos z]
    · rw [if_neg z, if_neg (by omega)]; exact (h9.1 c' hc').1
  · rw [e28, e43, e43]
    have q := (h9.1 c' hc').2 t' a b
    have u1 := h9.2.1 (3 * c' + t') (by omega)
    have u2 := h9.2.1 (3 * c') (by omega)
    by_cases z : 3 * c' + t' = 3 * c + t
    · rw [if_pos z, if_pos z, if_neg (by omega)]
      exact ⟨fun w => absurd rfl w, fun w => by omega⟩
    · rw [if_neg z, if_neg z]
      by_cases y : t = 0 ∧ (3 * c' + t' = 3 * c + 1 ∨ 3 * c' + t' = 3 * c + 2)
      · rw [if_pos y, if_pos (by omega)]
        exact ⟨fun _ => by omega, fun _ => by decide⟩
      · rw [if_neg y, if_neg (by omega)]; exact q
  · rw [e43, e17]
    have u := h9.2.1 x hx
    split <;> omega
  · rw [e17]; have := h9.2.2.1; omega
  · rw [e17]; have := h9.2.2.2; omega
  · rw [e27, e44]
    unfold fgn
    rw [h10 i hi]

theorem sp_cisSign {s : Int} {σ : ho_S} {Q : ho_K} {X : ho_X} : mX6_isSign [s] σ Q X ↔ Q (bI (s = 10 ∨ (32 ≤ s ∧ s ≤ 131071 ∧ (s < 55296 ∨ 57343 < s)))) σ := by
  simp only [mX6_isSign, fX6_isSign, u_eC, u_eV, u_eF, u_eR, u_eI, u_eL, u_eB, u_eD, u_eM, u_eU, u_aN, u_aC, u_eK, u_eT, u_cLt, u_cLe, u_cGt, u_cGe, u_cEq, u_cNe, u_cAnd, u_cOr, u_cNot, u_zN, u_zS, u_zD, u_zL, u_zI, u_zB, u_zP, u_zF, u_zA, u_zU, u_zC, u_zR, u_zRZ, u_zRC, u_zRV, u_zT, u_zE, u_zK, u_zY, ho_nid, List.getD_cons_zero, List.getD_cons_succ, List.set_cons_zero, List.set_cons_succ, List.cons_append, List.nil_append, List.take_succ_cons, List.take_zero, Int.reduceToNat, Int.toNat_natCast, nN_0, nN_1, nN_2, nN_3, nN_4, nN_5, nN_6, nN_7, nN_8, nN_9, nN_10, nN_11, nN_12, nN_13, nN_14, nN_15, nN_16, nN_17, nN_18, nN_19, nN_20, nN_21, nN_22, nN_23, nN_24, nN_25, nN_26, nN_27, nN_28, nN_29, nN_30, nN_31, nN_32, nN_33, nN_34, nN_35, nN_36, nN_37, nN_38, nN_39, nN_40, nN_41, nN_42, nN_43, nN_44, nN_45, nN_46, nN_47, nN_48, nN_49, nN_50, nN_51, nN_52, nN_53, nN_54, nR_0_0, nR_0_1, nR_0_2, nR_0_3, nR_0_4, nR_0_5, nR_0_6, nR_0_7, nR_0_8, nR_0_9, nR_0_10, nR_1_0, nR_1_1, nR_1_2, nR_1_3, nR_1_4, nR_2_0, nR_2_1, nR_2_2, nR_2_3, nR_2_4, nR_3_0, nR_3_1, nR_4_2, nR_5_2, nR_6_0, nR_6_1, nR_6_2, nR_7_0, nR_30_2, nR_30_3, nR_30_4, nR_30_6, nR_30_7, nR_30_9, nR_30_10, nR_30_11, nR_30_12, nR_30_13, nR_30_14, nR_30_15, nR_30_16, nR_30_18, nR_30_19, nR_30_20, nR_30_21, nR_30_22, nR_30_23, nR_30_24, nR_30_28, nR_30_29, nR_30_31, n00, n01, true_or, or_true, true_and]
  unfold bI
  grind
theorem sp_misSign {s : Int} {σ : ho_S} {Q : ho_K} {X : ho_X} : mX7_isSign [s] σ Q X ↔ Q (bI (s = 10 ∨ (32 ≤ s ∧ s ≤ 131071 ∧ (s < 55296 ∨ 57343 < s)))) σ := by
  simp only [mX7_isSign, fX7_isSign, u_eC, u_eV, u_eF, u_eR, u_eI, u_eL, u_eB, u_eD, u_eM, u_eU, u_aN, u_aC, u_eK, u_eT, u_cLt, u_cLe, u_cGt, u_cGe, u_cEq, u_cNe, u_cAnd, u_cOr, u_cNot, u_zN, u_zS, u_zD, u_zL, u_zI, u_zB, u_zP, u_zF, u_zA, u_zU, u_zC, u_zR, u_zRZ, u_zRC, u_zRV, u_zT, u_zE, u_zK, u_zY, ho_nid, List.getD_cons_zero, List.getD_cons_succ, List.set_cons_zero, List.set_cons_succ, List.cons_append, List.nil_append, List.take_succ_cons, List.take_zero, Int.reduceToNat, Int.toNat_natCast, nN_0, nN_1, nN_2, nN_3, nN_4, nN_5, nN_6, nN_7, nN_8, nN_9, nN_10, nN_11, nN_12, nN_13, nN_14, nN_15, nN_16, nN_17, nN_18, nN_19, nN_20, nN_21, nN_22, nN_23, nN_24, nN_25, nN_26, nN_27, nN_28, nN_29, nN_30, nN_31, nN_32, nN_33, nN_34, nN_35, nN_36, nN_37, nN_38, nN_39, nN_40, nN_41, nN_42, nN_43, nN_44, nN_45, nN_46, nN_47, nN_48, nN_49, nN_50, nN_51, nN_52, nN_53, nN_54, nR_0_0, nR_0_1, nR_0_2, nR_0_3, nR_0_4, nR_0_5, nR_0_6, nR_0_7, nR_0_8, nR_0_9, nR_0_10, nR_1_0, nR_1_1, nR_1_2, nR_1_3, nR_1_4, nR_2_0, nR_2_1, nR_2_2, nR_2_3, nR_2_4, nR_3_0, nR_3_1, nR_4_2, nR_5_2, nR_6_0, nR_6_1, nR_6_2, nR_7_0, nR_30_2, nR_30_3, nR_30_4, nR_30_6, nR_30_7, nR_30_9, nR_30_10, nR_30_11, nR_30_12, nR_30_13, nR_30_14, nR_30_15, nR_30_16, nR_30_18, nR_30_19, nR_30_20, nR_30_21, nR_30_22, nR_30_23, nR_30_24, nR_30_28, nR_30_29, nR_30_31, sp_in, bI_ne, bI_eq, n00, n01, true_or, or_true, true_and]
  unfold bI
  grind

theorem op_type {j : Nat} {σ : ho_S} {c t s : Int} (hj : j < 512) (hI : hi_Inv j σ) : mX6_type [0, c, t, s] σ (fun a σ => mX7_type [30, c, t, s] (ho_up σ 54 0 a) (fun b σ => σ 30 0 = 0 ∧ σ 54 0 = b ∧ hi_Inv (j + 1) σ) (fun _ _ => False)) (fun ec σ => (ec = 2 ∧ mX7_type [30, c, t, s] σ (fun _ σ => σ 30 0 = 1 ∧ hi_Inv (j + 1) σ) (fun _ _ => False)) ∨ (ec = 0 ∧ mX7_type [30, c, t, s] σ (fun _ σ => σ 30 0 = 2 ∧ hi_Inv (j + 1) σ) (fun _ _ => False)) ∨ (ec = 1 ∧ mX7_type [30, c, t, s] σ (fun _ σ => σ 30 0 = 3 ∧ hi_Inv (j + 1) σ) (fun _ _ => False))) := by
  have hI0 := hI
  obtain ⟨_, S, N, M, h1, h2, h3, h4, h5, h6, h7, h8, h9, h10, h11, h12, h13⟩ := hI
  have hM := h1.2.2.2.2.2.2
  have hN : N ≤ 4800 := by have := h2.1; have := h2.2.1; omega
  simp only [mX6_type, fX6_type, u_eC, u_eV, u_eF, u_eR, u_eI, u_eL, u_eB, u_eD, u_eM, u_eU, u_aN, u_aC, u_eK, u_eT, u_cLt, u_cLe, u_cGt, u_cGe, u_cEq, u_cNe, u_cAnd, u_cOr, u_cNot, u_zN, u_zS, u_zD, u_zL, u_zI, u_zB, u_zP, u_zF, u_zA, u_zU, u_zC, u_zR, u_zRZ, u_zRC, u_zRV, u_zT, u_zE, u_zK, u_zY, ho_nid, List.getD_cons_zero, List.getD_cons_succ, List.set_cons_zero, List.set_cons_succ, List.cons_append, List.nil_append, List.take_succ_cons, List.take_zero, Int.reduceToNat, Int.toNat_natCast, nN_0, nN_1, nN_2, nN_3, nN_4, nN_5, nN_6, nN_7, nN_8, nN_9, nN_10, nN_11, nN_12, nN_13, nN_14, nN_15, nN_16, nN_17, nN_18, nN_19, nN_20, nN_21, nN_22, nN_23, nN_24, nN_25, nN_26, nN_27, nN_28, nN_29, nN_30, nN_31, nN_32, nN_33, nN_34, nN_35, nN_36, nN_37, nN_38, nN_39, nN_40, nN_41, nN_42, nN_43, nN_44, nN_45, nN_46, nN_47, nN_48, nN_49, nN_50, nN_51, nN_52, nN_53, nN_54, nR_0_0, nR_0_1, nR_0_2, nR_0_3, nR_0_4, nR_0_5, nR_0_6, nR_0_7, nR_0_8, nR_0_9, nR_0_10, nR_1_0, nR_1_1, nR_1_2, nR_1_3, nR_1_4, nR_2_0, nR_2_1, nR_2_2, nR_2_3, nR_2_4, nR_3_0, nR_3_1, nR_4_2, nR_5_2, nR_6_0, nR_6_1, nR_6_2, nR_7_0, nR_30_2, nR_30_3, nR_30_4, nR_30_6, nR_30_7, nR_30_9, nR_30_10, nR_30_11, nR_30_12, nR_30_13, nR_30_14, nR_30_15, nR_30_16, nR_30_18, nR_30_19, nR_30_20, nR_30_21, nR_30_22, nR_30_23, nR_30_24, nR_30_28, nR_30_29, nR_30_31, sp_needText (σ := σ) (show σ 0 11 ≤ 16 by rw [h1.2.2.2.2.1]; omega), h1.2.2.2.2.1]
  have ch := h9.2.2
  have sg : ∀ z : Prop, z ↔ z := fun _ => Iff.rfl
  by_cases cc : (0 ≤ c ∧ c < (M : Int)) ∧ 0 ≤ t ∧ t < 3
  · rw [if_pos cc]
    obtain ⟨c, rfl⟩ : ∃ y : Nat, c = (y : Int) := ⟨c.toNat, by omega⟩
    obtain ⟨t, rfl⟩ : ∃ y : Nat, t = (y : Int) := ⟨t.toNat, by omega⟩
    obtain ⟨n, T, hT, hT', hG⟩ := GX_TXT h8 (show 3 * c + t < 48 by omega)
    have hn := hT.2.1
    rw [c3]
    refine sp_cisSign.mpr ?_
    simp only [bI_ne, bI_eq]
    have e41 : σ 41 (3 * c + t) = (n : Int) := hT'.1
    refine ⟨fun g => ?_, fun g => Or.inr (Or.inl ⟨by trivial, ?_⟩)⟩
    · refine (sp_sizeT (by omega) hT).mpr ⟨fun z => Or.inr (Or.inr ⟨by trivial, ?_⟩), fun z => ?_⟩
      · have n60 : n = 60 := by omega
        simp only [mX7_type, fX7_type, u_eC, u_eV, u_eF, u_eR, u_eI, u_eL, u_eB, u_eD, u_eM, u_eU, u_aN, u_aC, u_eK, u_eT, u_cLt, u_cLe, u_cGt, u_cGe, u_cEq, u_cNe, u_cAnd, u_cOr, u_cNot, u_zN, u_zS, u_zD, u_zL, u_zI, u_zB, u_zP, u_zF, u_zA, u_zU, u_zC, u_zR, u_zRZ, u_zRC, u_zRV, u_zT, u_zE, u_zK, u_zY, ho_nid, List.getD_cons_zero, List.getD_cons_succ, List.set_cons_zero, List.set_cons_succ, List.cons_append, List.nil_append, List.take_succ_cons, List.take_zero, Int.reduceToNat, Int.toNat_natCast, nN_0, nN_1, nN_2, nN_3, nN_4, nN_5, nN_6, nN_7, nN_8, nN_9, nN_10, nN_11, nN_12, nN_13, nN_14, nN_15, nN_16, nN_17, nN_18, nN_19, nN_20, nN_21, nN_22, nN_23, nN_24, nN_25, nN_26, nN_27, nN_28, nN_29, nN_30, nN_31, nN_32, nN_33, nN_34, nN_35, nN_36, nN_37, nN_38, nN_39, nN_40, nN_41, nN_42, nN_43, nN_44, nN_45, nN_46, nN_47, nN_48, nN_49, nN_50, nN_51, nN_52, nN_53, nN_54, nR_0_0, nR_0_1, nR_0_2, nR_0_3, nR_0_4, nR_0_5, nR_0_6, nR_0_7, nR_0_8, nR_0_9, nR_0_10, nR_1_0, nR_1_1, nR_1_2, nR_1_3, nR_1_4, nR_2_0, nR_2_1, nR_2_2, nR_2_3, nR_2_4, nR_3_0, nR_3_1, nR_4_2, nR_5_2, nR_6_0, nR_6_1, nR_6_2, nR_7_0, nR_30_2, nR_30_3, nR_30_4, nR_30_6, nR_30_7, nR_30_9, nR_30_10, nR_30_11, nR_30_12, nR_30_13, nR_30_14, nR_30_15, nR_30_16, nR_30_18, nR_30_19, nR_30_20, nR_30_21, nR_30_22, nR_30_23, nR_30_24, nR_30_28, nR_30_29, nR_30_31, sp_isText (σ := σ) (show 0 ≤ σ 30 8 by rw [h1.2.2.2.2.2.1]; omega) (show σ 30 8 ≤ 16 by rw [h1.2.2.2.2.2.1]; omega), sp_misSign, zlt, zle, zl1, zl2, zl3, z1l, z2l, z3l, z1e, z2e, z3e, z1n, z2n, z3n, z0n, z0e, true_implies, false_implies, and_true, true_and, ho_upE, bI_ne, bI_eq, true_or, or_true, h1.2.2.2.2.2.1, mIdx (show c < 16 by omega) (show t < 3 by omega)]
        simp only [mR_30_2, mR_30_3, mR_30_4, mR_30_6, mR_30_7, mR_30_9, mR_30_10, mR_30_11, mR_30_12, mR_30_13, mR_30_14, mR_30_15, mR_30_16, mR_30_18, mR_30_19, mR_30_20, mR_30_21, mR_30_22, mR_30_23, mR_30_24, mR_30_28, mR_30_29, mR_30_31, mR_0_9, mR_7_0, nN_25, nN_26, nN_27, nN_28, nN_29, nN_30, nN_31, nN_32, nN_33, nN_34, nN_35, nN_36, nN_37, nN_38, nN_39, nN_40, nN_41, nN_42, nN_43, nN_44, nN_45, nN_46, nN_47, nN_48, nN_49, nN_50, nN_51, nN_52, nN_53, nN_54, Int.toNat_natCast, saF, saE, ho_upF, ho_upE, ne_eq, not_false_eq_true, Nat.reduceEqDiff, e41]
        exact ⟨fun _ => ⟨fun _ => ⟨by omega, fun _ => Inv_sc hj hI0 (sm_up sm_rf rfl), fun w => absurd (show (n : Int) = 60 by omega) w⟩, fun w => absurd g w⟩, fun w => absurd cc w⟩
      · have hn60 : n < 60 := by omega
        simp only [mX4_append, fX4_append, u_eC, u_eV, u_eF, u_eR, u_eI, u_eL, u_eB, u_eD, u_eM, u_eU, u_aN, u_aC, u_eK, u_eT, u_cLt, u_cLe, u_cGt, u_cGe, u_cEq, u_cNe, u_cAnd, u_cOr, u_cNot, u_zN, u_zS, u_zD, u_zL, u_zI, u_zB, u_zP, u_zF, u_zA, u_zU, u_zC, u_zR, u_zRZ, u_zRC, u_zRV, u_zT, u_zE, u_zK, u_zY, ho_nid, List.getD_cons_zero, List.getD_cons_succ, List.set_cons_zero, List.set_cons_succ, List.cons_append, List.nil_append, List.take_succ_cons, List.take_zero, Int.reduceToNat, Int.toNat_natCast, nN_0, nN_1, nN_2, nN_3, nN_4, nN_5, nN_6, nN_7, nN_8, nN_9, nN_10, nN_11, nN_12, nN_13, nN_14, nN_15, nN_16, nN_17, nN_18, nN_19, nN_20, nN_21, nN_22, nN_23, nN_24, nN_25, nN_26, nN_27, nN_28, nN_29, nN_30, nN_31, nN_32, nN_33, nN_34, nN_35, nN_36, nN_37, nN_38, nN_39, nN_40, nN_41, nN_42, nN_43, nN_44, nN_45, nN_46, nN_47, nN_48, nN_49, nN_50, nN_51, nN_52, nN_53, nN_54, nR_0_0, nR_0_1, nR_0_2, nR_0_3, nR_0_4, nR_0_5, nR_0_6, nR_0_7, nR_0_8, nR_0_9, nR_0_10, nR_1_0, nR_1_1, nR_1_2, nR_1_3, nR_1_4, nR_2_0, nR_2_1, nR_2_2, nR_2_3, nR_2_4, nR_3_0, nR_3_1, nR_4_2, nR_5_2, nR_6_0, nR_6_1, nR_6_2, nR_7_0, nR_30_2, nR_30_3, nR_30_4, nR_30_6, nR_30_7, nR_30_9, nR_30_10, nR_30_11, nR_30_12, nR_30_13, nR_30_14, nR_30_15, nR_30_16, nR_30_18, nR_30_19, nR_30_20, nR_30_21, nR_30_22, nR_30_23, nR_30_24, nR_30_28, nR_30_29, nR_30_31, sp_sizeT (show 3 * c + t < 80 by omega) hT, sp_store, o60c (show 3 * c + t < 1000 by omega) (show n < 1000 by omega), oinc (show n < 100000 by omega)]
        rw [si18 (by omega), si19 (by omega)]
        refine sp_noteChange (by omega) (by omega) (fun σ1 s1 e27 e28 => ?_)
        have a18 : ∀ i, σ1 18 i = if i = 60 * (3 * c + t) + n then s else σ 18 i := fun i => by
          rw [sm_fn s1 18 (fun _ => rfl), ho_upF (show (18 : Nat) ≠ 19 by decide), ho_upA]
        have a19 : ∀ i, σ1 19 i = if i = 3 * c + t then ((n + 1 : Nat) : Int) else σ 19 i := fun i => by
          rw [sm_fn s1 19 (fun _ => rfl), ho_upA, ho_upF (show (19 : Nat) ≠ 18 by decide)]
        have sA : sm pTy σ σ1 := sm_tr (sm_up (sm_up sm_rf rfl) rfl) (sm_w s1 pTy_nc)
        have b27 : σ1 27 = fgn (σ 27) (3 * c + t) 1 := e27
        have b28 : ∀ i, σ1 28 i = if i = 3 * c + t then 0 else if t = 0 ∧ (i = 3 * c + 1 ∨ i = 3 * c + 2) then 1 else σ 28 i := e28
        have mm : ∀ k, (∀ j, (Nat.beq k 27 || Nat.beq k 28) = false) → k ≠ 18 → k ≠ 19 → σ1 k = σ k := fun k p a b => by rw [sm_fn s1 k p, ho_upF b, ho_upF a]
        refine (sp_size (by omega)).mpr ?_
        rw [a19, if_pos rfl]
        refine tau (fun τ sτ τ54 eτ => ?_)
        have q : ∀ k, (∀ j, (Nat.beq k 27 || Nat.beq k 28) = false) → k ≠ 18 → k ≠ 19 → k ≠ 54 → τ k = σ k := fun k p a b d => by rw [eτ k d, mm k p a b]
        have q30 := q 30 (fun _ => rfl) (by omega) (by omega) (by omega)
        have q41 := q 41 (fun _ => rfl) (by omega) (by omega) (by omega)
        have q42 := q 42 (fun _ => rfl) (by omega) (by omega) (by omega)
        have q43 := q 43 (fun _ => rfl) (by omega) (by omega) (by omega)
        have q44 := q 44 (fun _ => rfl) (by omega) (by omega) (by omega)
        have m8 : τ 30 8 = (M : Int) := by rw [q30]; exact h1.2.2.2.2.2.1
        simp only [mX7_type, fX7_type, u_eC, u_eV, u_eF, u_eR, u_eI, u_eL, u_eB, u_eD, u_eM, u_eU, u_aN, u_aC, u_eK, u_eT, u_cLt, u_cLe, u_cGt, u_cGe, u_cEq, u_cNe, u_cAnd, u_cOr, u_cNot, u_zN, u_zS, u_zD, u_zL, u_zI, u_zB, u_zP, u_zF, u_zA, u_zU, u_zC, u_zR, u_zRZ, u_zRC, u_zRV, u_zT, u_zE, u_zK, u_zY, ho_nid, List.getD_cons_zero, List.getD_cons_succ, List.set_cons_zero, List.set_cons_succ, List.cons_append, List.nil_append, List.take_succ_cons, List.take_zero, Int.reduceToNat, Int.toNat_natCast, nN_0, nN_1, nN_2, nN_3, nN_4, nN_5, nN_6, nN_7, nN_8, nN_9, nN_10, nN_11, nN_12, nN_13, nN_14, nN_15, nN_16, nN_17, nN_18, nN_19, nN_20, nN_21, nN_22, nN_23, nN_24, nN_25, nN_26, nN_27, nN_28, nN_29, nN_30, nN_31, nN_32, nN_33, nN_34, nN_35, nN_36, nN_37, nN_38, nN_39, nN_40, nN_41, nN_42, nN_43, nN_44, nN_45, nN_46, nN_47, nN_48, nN_49, nN_50, nN_51, nN_52, nN_53, nN_54, nR_0_0, nR_0_1, nR_0_2, nR_0_3, nR_0_4, nR_0_5, nR_0_6, nR_0_7, nR_0_8, nR_0_9, nR_0_10, nR_1_0, nR_1_1, nR_1_2, nR_1_3, nR_1_4, nR_2_0, nR_2_1, nR_2_2, nR_2_3, nR_2_4, nR_3_0, nR_3_1, nR_4_2, nR_5_2, nR_6_0, nR_6_1, nR_6_2, nR_7_0, nR_30_2, nR_30_3, nR_30_4, nR_30_6, nR_30_7, nR_30_9, nR_30_10, nR_30_11, nR_30_12, nR_30_13, nR_30_14, nR_30_15, nR_30_16, nR_30_18, nR_30_19, nR_30_20, nR_30_21, nR_30_22, nR_30_23, nR_30_24, nR_30_28, nR_30_29, nR_30_31, sp_isText (σ := τ) (show 0 ≤ τ 30 8 by rw [m8]; omega) (show τ 30 8 ≤ 16 by rw [m8]; omega), sp_misSign, zlt, zle, zl1, zl2, zl3, z1l, z2l, z3l, z1e, z2e, z3e, z1n, z2n, z3n, z0n, z0e, true_implies, false_implies, and_true, true_and, ho_upE, bI_ne, bI_eq, true_or, or_true, m8, mIdx (show c < 16 by omega) (show t < 3 by omega)]
        simp only [mR_30_2, mR_30_3, mR_30_4, mR_30_6, mR_30_7, mR_30_9, mR_30_10, mR_30_11, mR_30_12, mR_30_13, mR_30_14, mR_30_15, mR_30_16, mR_30_18, mR_30_19, mR_30_20, mR_30_21, mR_30_22, mR_30_23, mR_30_24, mR_30_28, mR_30_29, mR_30_31, mR_0_9, mR_7_0, nN_25, nN_26, nN_27, nN_28, nN_29, nN_30, nN_31, nN_32, nN_33, nN_34, nN_35, nN_36, nN_37, nN_38, nN_39, nN_40, nN_41, nN_42, nN_43, nN_44, nN_45, nN_46, nN_47, nN_48, nN_49, nN_50, nN_51, nN_52, nN_53, nN_54, Int.toNat_natCast, saF, saE, ho_upF, ho_upE, ne_eq, not_false_eq_true, Nat.reduceEqDiff, q41, e41, o60 (show 3 * c + t < 1000 by omega) (show n < 1000 by omega), oinc (show n < 100000 by omega)]
        refine ⟨fun _ => ⟨fun _ => ⟨by omega, fun w => by omega, fun _ => ⟨by omega, by omega, by omega, ?_⟩⟩, fun w => absurd g w⟩, fun w => absurd cc w⟩
        refine sp_mmarks (by omega) (by omega) (by show 0 ≤ τ 30 17; rw [q30]; omega) (by show τ 30 17 ≤ 100000; rw [q30]; omega) ?_
        refine sp_forgets (by omega) (by omega) ?_
        obtain ⟨υ, hυ⟩ : ∃ υ, υ = sa (ho_up (ho_up (ho_up (ho_up (ho_up τ 30 0 0) 42 (60 * (3 * c + t) + n) s) 41 (3 * c + t) ((n + 1 : Nat) : Int)) 30 17 (τ 30 17 + 1)) 43 (3 * c + t) (τ 30 17 + 1)) 44 (fgn (τ 44) (3 * c + t) 1) := ⟨_, rfl⟩
        have u41 : ∀ i, υ 41 i = if i = 3 * c + t then ((n + 1 : Nat) : Int) else σ 41 i := fun i => by
          rw [hυ]
          show ho_up (ho_up (ho_up τ 30 0 0) 42 (60 * (3 * c + t) + n) s) 41 (3 * c + t) ((n + 1 : Nat) : Int) 41 i = _
          rw [ho_upA]
          show (if _ then _ else τ 41 i) = _
          rw [q41]
        have u42 : ∀ i, υ 42 i = if i = 60 * (3 * c + t) + n then s else σ 42 i := fun i => by
          rw [hυ]
          show ho_up (ho_up τ 30 0 0) 42 (60 * (3 * c + t) + n) s 42 i = _
          rw [ho_upA]
          show (if _ then _ else τ 42 i) = _
          rw [q42]
        have u43 : ∀ i, υ 43 i = if i = 3 * c + t then σ 30 17 + 1 else σ 43 i := fun i => by
          rw [hυ, saF (show (43 : Nat) ≠ 44 by decide), ho_upA, q30]
          show (if _ then _ else τ 43 i) = _
          rw [q43]
        have u44 : υ 44 = fgn (σ 44) (3 * c + t) 1 := by rw [hυ, saE, q44]
        have u17 : υ 30 17 = σ 30 17 + 1 := by
          rw [hυ, saF (show (30 : Nat) ≠ 44 by decide), ho_upF (show (30 : Nat) ≠ 43 by decide), ho_upE, q30]
        have u30 : υ 30 0 = 0 := by
          rw [hυ]
          show ho_up τ 30 0 0 30 0 = 0
          exact ho_upE
        have u18 : υ 18 = σ1 18 := by rw [hυ]; exact eτ 18 (by omega)
        have u19 : υ 19 = σ1 19 := by rw [hυ]; exact eτ 19 (by omega)
        have u27 : υ 27 = σ1 27 := by rw [hυ]; exact eτ 27 (by omega)
        have u28 : υ 28 = σ1 28 := by rw [hυ]; exact eτ 28 (by omega)
        have u54 : υ 54 0 = τ 54 0 := by rw [hυ]; rfl
        have us : sm pTy σ υ := by rw [hυ]; exact sm_sa (sm_up (sm_up (sm_up (sm_up (sm_up (sm_tr sA (sm_w sτ pTy_sc)) rfl) rfl) rfl) rfl) rfl) (fun _ => rfl)
        have goalS : υ 30 0 = 0 ∧ υ 54 0 = υ 41 (3 * c + t) ∧ hi_Inv (j + 1) υ := by
          refine ⟨u30, by rw [u54, τ54, u41, if_pos rfl], Inv_ty hj hI0 (c := c) (t := t) (by omega) (by omega) us (fun x hx hxx => ?_) (fun x hx hxx => ?_) ?_ ?_ (fun i => ?_) u17 u43 (by rw [u27]; exact b27) u44 (fun i => by rw [u28]; exact b28 i)⟩
          · have zx := h8.1 x hx
            refine tv_eq (by rw [u19, a19, if_neg hxx]) (fun i hi => ?_)
            rw [u19, a19, if_neg hxx] at hi
            rw [u18, a18, if_neg (by omega)]
          · have zx := h8.2.1.1 x hx
            refine tv_eq (by rw [u41, if_neg hxx]) (fun i hi => ?_)
            rw [u41, if_neg hxx] at hi
            rw [u42, if_neg (by omega)]
          · refine tv_eq (by rw [u19, a19, if_pos rfl, u41, if_pos rfl]) (fun i hi => ?_)
            rw [u19, a19, if_pos rfl] at hi
            rw [u18, a18, u42]
            by_cases z9 : i = n
            · rw [if_pos (by omega), if_pos (by omega)]
            · rw [if_neg (by omega), if_neg (by omega), TXT_at hT (by omega), MTX_at hT' (by omega)]
          · rw [u19, a19, if_pos rfl]; omega
          · unfold tx
            rw [u19, a19, if_pos rfl, u18, a18]
            by_cases z8 : (i : Int) < ((n + 1 : Nat) : Int)
            · rw [if_pos z8]
              by_cases z9 : i = n
              · rw [if_pos (by omega)]; omega
              · rw [if_neg (by omega), TXT_at hT (by omega)]; exact hG i (by omega)
            · rw [if_neg z8]; omega
        rw [hυ] at goalS
        exact ⟨by omega, goalS⟩
    · simp only [mX7_type, fX7_type, u_eC, u_eV, u_eF, u_eR, u_eI, u_eL, u_eB, u_eD, u_eM, u_eU, u_aN, u_aC, u_eK, u_eT, u_cLt, u_cLe, u_cGt, u_cGe, u_cEq, u_cNe, u_cAnd, u_cOr, u_cNot, u_zN, u_zS, u_zD, u_zL, u_zI, u_zB, u_zP, u_zF, u_zA, u_zU, u_zC, u_zR, u_zRZ, u_zRC, u_zRV, u_zT, u_zE, u_zK, u_zY, ho_nid, List.getD_cons_zero, List.getD_cons_succ, List.set_cons_zero, List.set_cons_succ, List.cons_append, List.nil_append, List.take_succ_cons, List.take_zero, Int.reduceToNat, Int.toNat_natCast, nN_0, nN_1, nN_2, nN_3, nN_4, nN_5, nN_6, nN_7, nN_8, nN_9, nN_10, nN_11, nN_12, nN_13, nN_14, nN_15, nN_16, nN_17, nN_18, nN_19, nN_20, nN_21, nN_22, nN_23, nN_24, nN_25, nN_26, nN_27, nN_28, nN_29, nN_30, nN_31, nN_32, nN_33, nN_34, nN_35, nN_36, nN_37, nN_38, nN_39, nN_40, nN_41, nN_42, nN_43, nN_44, nN_45, nN_46, nN_47, nN_48, nN_49, nN_50, nN_51, nN_52, nN_53, nN_54, nR_0_0, nR_0_1, nR_0_2, nR_0_3, nR_0_4, nR_0_5, nR_0_6, nR_0_7, nR_0_8, nR_0_9, nR_0_10, nR_1_0, nR_1_1, nR_1_2, nR_1_3, nR_1_4, nR_2_0, nR_2_1, nR_2_2, nR_2_3, nR_2_4, nR_3_0, nR_3_1, nR_4_2, nR_5_2, nR_6_0, nR_6_1, nR_6_2, nR_7_0, nR_30_2, nR_30_3, nR_30_4, nR_30_6, nR_30_7, nR_30_9, nR_30_10, nR_30_11, nR_30_12, nR_30_13, nR_30_14, nR_30_15, nR_30_16, nR_30_18, nR_30_19, nR_30_20, nR_30_21, nR_30_22, nR_30_23, nR_30_24, nR_30_28, nR_30_29, nR_30_31, sp_isText (σ := σ) (show 0 ≤ σ 30 8 by rw [h1.2.2.2.2.2.1]; omega) (show σ 30 8 ≤ 16 by rw [h1.2.2.2.2.2.1]; omega), sp_misSign, zlt, zle, zl1, zl2, zl3, z1l, z2l, z3l, z1e, z2e, z3e, z1n, z2n, z3n, z0n, z0e, true_implies, false_implies, and_true, true_and, ho_upE, bI_ne, bI_eq, true_or, or_true, h1.2.2.2.2.2.1, mIdx (show c < 16 by omega) (show t < 3 by omega)]
      exact ⟨fun _ => ⟨fun w => absurd w g, fun _ => Inv_sc hj hI0 (sm_up sm_rf rfl)⟩, fun w => absurd cc w⟩
  · rw [if_neg cc]
    refine Or.inl ⟨by trivial, ?_⟩
    simp only [mX7_type, fX7_type, u_eC, u_eV, u_eF, u_eR, u_eI, u_eL, u_eB, u_eD, u_eM, u_eU, u_aN, u_aC, u_eK, u_eT, u_cLt, u_cLe, u_cGt, u_cGe, u_cEq, u_cNe, u_cAnd, u_cOr, u_cNot, u_zN, u_zS, u_zD, u_zL, u_zI, u_zB, u_zP, u_zF, u_zA, u_zU, u_zC, u_zR, u_zRZ, u_zRC, u_zRV, u_zT, u_zE, u_zK, u_zY, ho_nid, List.getD_cons_zero, List.getD_cons_succ, List.set_cons_zero, List.set_cons_succ, List.cons_append, List.nil_append, List.take_succ_cons, List.take_zero, Int.reduceToNat, Int.toNat_natCast, nN_0, nN_1, nN_2, nN_3, nN_4, nN_5, nN_6, nN_7, nN_8, nN_9, nN_10, nN_11, nN_12, nN_13, nN_14, nN_15, nN_16, nN_17, nN_18, nN_19, nN_20, nN_21, nN_22, nN_23, nN_24, nN_25, nN_26, nN_27, nN_28, nN_29, nN_30, nN_31, nN_32, nN_33, nN_34, nN_35, nN_36, nN_37, nN_38, nN_39, nN_40, nN_41, nN_42, nN_43, nN_44, nN_45, nN_46, nN_47, nN_48, nN_49, nN_50, nN_51, nN_52, nN_53, nN_54, nR_0_0, nR_0_1, nR_0_2, nR_0_3, nR_0_4, nR_0_5, nR_0_6, nR_0_7, nR_0_8, nR_0_9, nR_0_10, nR_1_0, nR_1_1, nR_1_2, nR_1_3, nR_1_4, nR_2_0, nR_2_1, nR_2_2, nR_2_3, nR_2_4, nR_3_0, nR_3_1, nR_4_2, nR_5_2, nR_6_0, nR_6_1, nR_6_2, nR_7_0, nR_30_2, nR_30_3, nR_30_4, nR_30_6, nR_30_7, nR_30_9, nR_30_10, nR_30_11, nR_30_12, nR_30_13, nR_30_14, nR_30_15, nR_30_16, nR_30_18, nR_30_19, nR_30_20, nR_30_21, nR_30_22, nR_30_23, nR_30_24, nR_30_28, nR_30_29, nR_30_31, sp_isText (σ := σ) (show 0 ≤ σ 30 8 by rw [h1.2.2.2.2.2.1]; omega) (show σ 30 8 ≤ 16 by rw [h1.2.2.2.2.2.1]; omega), sp_misSign, zlt, zle, zl1, zl2, zl3, z1l, z2l, z3l, z1e, z2e, z3e, z1n, z2n, z3n, z0n, z0e, true_implies, false_implies, and_true, true_and, ho_upE, bI_ne, bI_eq, true_or, or_true, h1.2.2.2.2.2.1]
    exact ⟨fun w => absurd w cc, fun _ => Inv_sc hj hI0 (sm_up sm_rf rfl)⟩
