theorem pFi_33 : ∀ k j, pFi k j = false → (Nat.beq k 33 || (Nat.beq k 34 || (Nat.beq k 30 && Nat.beq j 5))) = false := fun k j z => by
  unfold pFi pSc at z
  cases a : Nat.beq k 33 <;> cases b : Nat.beq k 34 <;> cases c : Nat.beq k 30 <;> cases d : Nat.beq j 5 <;> simp [a, b, c, d] at z ⊢
theorem pFi_31 : ∀ k j, pFi k j = false → (Nat.beq k 30 && Nat.beq j 1) = false := fun k j z => by
  unfold pFi pSc at z
  cases c : Nat.beq k 30 <;> cases d : Nat.beq j 1 <;> simp [c, d] at z ⊢

theorem op_addShot {j : Nat} {σ : ho_S} {n : Int} (hj : j < 512) (hI : hi_Inv j σ) : mX6_addShot [0, n] σ (fun a σ => mX7_addShot [30, n] (ho_up σ 54 0 a) (fun b σ => σ 30 0 = 0 ∧ σ 54 0 = b ∧ hi_Inv (j + 1) σ) (fun _ _ => False)) (fun ec σ => (ec = 0 ∧ mX7_addShot [30, n] σ (fun _ σ => σ 30 0 = 1 ∧ hi_Inv (j + 1) σ) (fun _ _ => False)) ∨ (ec = 1 ∧ mX7_addShot [30, n] σ (fun _ σ => σ 30 0 = 2 ∧ hi_Inv (j + 1) σ) (fun _ _ => False))) := by
  have hI0 := hI
  obtain ⟨_, S, N, M, h1, h2, h3, h4, h5, h6, h7, h8, h9, h10, h11, h12, h13⟩ := hI
  have hM := h1.2.2.2.2.2.2
  have hN : N ≤ 4800 := by have := h2.1; have := h2.2.1; omega
  have e5 := h1.2.2.2.1
  have e31 := h1.2.1
  have S12 := h2.1
  have thr1 : ¬ (1 ≤ n ∧ n ≤ 400) → mX7_addShot [30, n] σ (fun _ σ => σ 30 0 = 1 ∧ hi_Inv (j + 1) σ) (fun _ _ => False) := by
    intro c
    simp only [mX7_addShot, fX7_addShot, u_eC, u_eV, u_eF, u_eR, u_eI, u_eL, u_eB, u_eD, u_eM, u_eU, u_aN, u_aC, u_eK, u_eT, u_cLt, u_cLe, u_cGt, u_cGe, u_cEq, u_cNe, u_cAnd, u_cOr, u_cNot, u_zN, u_zS, u_zD, u_zL, u_zI, u_zB, u_zP, u_zF, u_zA, u_zU, u_zC, u_zR, u_zRZ, u_zRC, u_zRV, u_zT, u_zE, u_zK, u_zY, ho_nid, List.getD_cons_zero, List.getD_cons_succ, List.set_cons_zero, List.set_cons_succ, List.cons_append, List.nil_append, List.take_succ_cons, List.take_zero, Int.reduceToNat, Int.toNat_natCast, nN_0, nN_1, nN_2, nN_3, nN_4, nN_5, nN_6, nN_7, nN_8, nN_9, nN_10, nN_11, nN_12, nN_13, nN_14, nN_15, nN_16, nN_17, nN_18, nN_19, nN_20, nN_21, nN_22, nN_23, nN_24, nN_25, nN_26, nN_27, nN_28, nN_29, nN_30, nN_31, nN_32, nN_33, nN_34, nN_35, nN_36, nN_37, nN_38, nN_39, nN_40, nN_41, nN_42, nN_43, nN_44, nN_45, nN_46, nN_47, nN_48, nN_49, nN_50, nN_51, nN_52, nN_53, nN_54, nR_0_0, nR_0_1, nR_0_2, nR_0_3, nR_0_4, nR_0_5, nR_0_6, nR_0_7, nR_0_8, nR_0_9, nR_0_10, nR_1_0, nR_1_1, nR_1_2, nR_1_3, nR_1_4, nR_2_0, nR_2_1, nR_2_2, nR_2_3, nR_2_4, nR_3_0, nR_3_1, nR_4_2, nR_5_2, nR_6_0, nR_6_1, nR_6_2, nR_7_0, nR_30_2, nR_30_3, nR_30_4, nR_30_6, nR_30_7, nR_30_9, nR_30_10, nR_30_11, nR_30_12, nR_30_13, nR_30_14, nR_30_15, nR_30_16, nR_30_18, nR_30_19, nR_30_20, nR_30_21, nR_30_22, nR_30_23, nR_30_24, nR_30_28, nR_30_29, nR_30_31, sp_in, zlt, zle, zl1, zl2, zl3, z1l, z2l, z3l, z1e, z2e, z3e, z1n, z2n, z3n, z0n, z0e, true_implies, false_implies, and_true, true_and, ho_upE, bI_ne, bI_eq, true_or, or_true, e31]
    exact ⟨fun w => absurd w c, fun _ => Inv_sc hj hI0 (sm_up sm_rf rfl)⟩
  have thr2 : (1 ≤ n ∧ n ≤ 400) → S = 12 → mX7_addShot [30, n] σ (fun _ σ => σ 30 0 = 2 ∧ hi_Inv (j + 1) σ) (fun _ _ => False) := by
    intro c d
    simp only [mX7_addShot, fX7_addShot, u_eC, u_eV, u_eF, u_eR, u_eI, u_eL, u_eB, u_eD, u_eM, u_eU, u_aN, u_aC, u_eK, u_eT, u_cLt, u_cLe, u_cGt, u_cGe, u_cEq, u_cNe, u_cAnd, u_cOr, u_cNot, u_zN, u_zS, u_zD, u_zL, u_zI, u_zB, u_zP, u_zF, u_zA, u_zU, u_zC, u_zR, u_zRZ, u_zRC, u_zRV, u_zT, u_zE, u_zK, u_zY, ho_nid, List.getD_cons_zero, List.getD_cons_succ, List.set_cons_zero, List.set_cons_succ, List.cons_append, List.nil_append, List.take_succ_cons, List.take_zero, Int.reduceToNat, Int.toNat_natCast, nN_0, nN_1, nN_2, nN_3, nN_4, nN_5, nN_6, nN_7, nN_8, nN_9, nN_10, nN_11, nN_12, nN_13, nN_14, nN_15, nN_16, nN_17, nN_18, nN_19, nN_20, nN_21, nN_22, nN_23, nN_24, nN_25, nN_26, nN_27, nN_28, nN_29, nN_30, nN_31, nN_32, nN_33, nN_34, nN_35, nN_36, nN_37, nN_38, nN_39, nN_40, nN_41, nN_42, nN_43, nN_44, nN_45, nN_46, nN_47, nN_48, nN_49, nN_50, nN_51, nN_52, nN_53, nN_54, nR_0_0, nR_0_1, nR_0_2, nR_0_3, nR_0_4, nR_0_5, nR_0_6, nR_0_7, nR_0_8, nR_0_9, nR_0_10, nR_1_0, nR_1_1, nR_1_2, nR_1_3, nR_1_4, nR_2_0, nR_2_1, nR_2_2, nR_2_3, nR_2_4, nR_3_0, nR_3_1, nR_4_2, nR_5_2, nR_6_0, nR_6_1, nR_6_2, nR_7_0, nR_30_2, nR_30_3, nR_30_4, nR_30_6, nR_30_7, nR_30_9, nR_30_10, nR_30_11, nR_30_12, nR_30_13, nR_30_14, nR_30_15, nR_30_16, nR_30_18, nR_30_19, nR_30_20, nR_30_21, nR_30_22, nR_30_23, nR_30_24, nR_30_28, nR_30_29, nR_30_31, sp_in, zlt, zle, zl1, zl2, zl3, z1l, z2l, z3l, z1e, z2e, z3e, z1n, z2n, z3n, z0n, z0e, true_implies, false_implies, and_true, true_and, ho_upE, bI_ne, bI_eq, true_or, or_true, e31]
    exact ⟨fun _ => ⟨fun _ => Inv_sc hj hI0 (sm_up sm_rf rfl), fun w => absurd (by omega) w⟩, fun w => absurd c w⟩
  simp only [mX6_addShot, fX6_addShot, u_eC, u_eV, u_eF, u_eR, u_eI, u_eL, u_eB, u_eD, u_eM, u_eU, u_aN, u_aC, u_eK, u_eT, u_cLt, u_cLe, u_cGt, u_cGe, u_cEq, u_cNe, u_cAnd, u_cOr, u_cNot, u_zN, u_zS, u_zD, u_zL, u_zI, u_zB, u_zP, u_zF, u_zA, u_zU, u_zC, u_zR, u_zRZ, u_zRC, u_zRV, u_zT, u_zE, u_zK, u_zY, ho_nid, List.getD_cons_zero, List.getD_cons_succ, List.set_cons_zero, List.set_cons_succ, List.cons_append, List.nil_append, List.take_succ_cons, List.take_zero, Int.reduceToNat, Int.toNat_natCast, nN_0, nN_1, nN_2, nN_3, nN_4, nN_5, nN_6, nN_7, nN_8, nN_9, nN_10, nN_11, nN_12, nN_13, nN_14, nN_15, nN_16, nN_17, nN_18, nN_19, nN_20, nN_21, nN_22, nN_23, nN_24, nN_25, nN_26, nN_27, nN_28, nN_29, nN_30, nN_31, nN_32, nN_33, nN_34, nN_35, nN_36, nN_37, nN_38, nN_39, nN_40, nN_41, nN_42, nN_43, nN_44, nN_45, nN_46, nN_47, nN_48, nN_49, nN_50, nN_51, nN_52, nN_53, nN_54, nR_0_0, nR_0_1, nR_0_2, nR_0_3, nR_0_4, nR_0_5, nR_0_6, nR_0_7, nR_0_8, nR_0_9, nR_0_10, nR_1_0, nR_1_1, nR_1_2, nR_1_3, nR_1_4, nR_2_0, nR_2_1, nR_2_2, nR_2_3, nR_2_4, nR_3_0, nR_3_1, nR_4_2, nR_5_2, nR_6_0, nR_6_1, nR_6_2, nR_7_0, nR_30_2, nR_30_3, nR_30_4, nR_30_6, nR_30_7, nR_30_9, nR_30_10, nR_30_11, nR_30_12, nR_30_13, nR_30_14, nR_30_15, nR_30_16, nR_30_18, nR_30_19, nR_30_20, nR_30_21, nR_30_22, nR_30_23, nR_30_24, nR_30_28, nR_30_29, nR_30_31, sp_shots, h1.1]
  refine ⟨fun w => Or.inl ⟨by trivial, thr1 (by omega)⟩, fun w1 => ⟨fun w => Or.inl ⟨by trivial, thr1 (by omega)⟩, fun w2 => ⟨fun w => Or.inr ⟨by trivial, thr2 ⟨w1, w2⟩ (by omega)⟩, fun w3 => ?_⟩⟩⟩
  obtain ⟨n, rfl⟩ : ∃ q : Nat, n = (q : Int) := ⟨n.toNat, by omega⟩
  clear thr1 thr2
  simp only [mX0_appendShot, fX0_appendShot, u_eC, u_eV, u_eF, u_eR, u_eI, u_eL, u_eB, u_eD, u_eM, u_eU, u_aN, u_aC, u_eK, u_eT, u_cLt, u_cLe, u_cGt, u_cGe, u_cEq, u_cNe, u_cAnd, u_cOr, u_cNot, u_zN, u_zS, u_zD, u_zL, u_zI, u_zB, u_zP, u_zF, u_zA, u_zU, u_zC, u_zR, u_zRZ, u_zRC, u_zRV, u_zT, u_zE, u_zK, u_zY, ho_nid, List.getD_cons_zero, List.getD_cons_succ, List.set_cons_zero, List.set_cons_succ, List.cons_append, List.nil_append, List.take_succ_cons, List.take_zero, Int.reduceToNat, Int.toNat_natCast, nN_0, nN_1, nN_2, nN_3, nN_4, nN_5, nN_6, nN_7, nN_8, nN_9, nN_10, nN_11, nN_12, nN_13, nN_14, nN_15, nN_16, nN_17, nN_18, nN_19, nN_20, nN_21, nN_22, nN_23, nN_24, nN_25, nN_26, nN_27, nN_28, nN_29, nN_30, nN_31, nN_32, nN_33, nN_34, nN_35, nN_36, nN_37, nN_38, nN_39, nN_40, nN_41, nN_42, nN_43, nN_44, nN_45, nN_46, nN_47, nN_48, nN_49, nN_50, nN_51, nN_52, nN_53, nN_54, nR_0_0, nR_0_1, nR_0_2, nR_0_3, nR_0_4, nR_0_5, nR_0_6, nR_0_7, nR_0_8, nR_0_9, nR_0_10, nR_1_0, nR_1_1, nR_1_2, nR_1_3, nR_1_4, nR_2_0, nR_2_1, nR_2_2, nR_2_3, nR_2_4, nR_3_0, nR_3_1, nR_4_2, nR_5_2, nR_6_0, nR_6_1, nR_6_2, nR_7_0, nR_30_2, nR_30_3, nR_30_4, nR_30_6, nR_30_7, nR_30_9, nR_30_10, nR_30_11, nR_30_12, nR_30_13, nR_30_14, nR_30_15, nR_30_16, nR_30_18, nR_30_19, nR_30_20, nR_30_21, nR_30_22, nR_30_23, nR_30_24, nR_30_28, nR_30_29, nR_30_31, sp_store, h1.1, oinc (show S < 100000 by omega)]
  rw [show si (ho_up σ 1 5 ((S + 1 : Nat) : Int)) 12 (S : Int) (n : Int) = ho_up (ho_up σ 1 5 ((S + 1 : Nat) : Int)) 12 S (n : Int) from si12 (by omega)]
  have old := h2.2.2.2.1
  obtain ⟨F', hF'⟩ : ∃ F' : Nat → Int, ∀ i, F' i = if i < N then σ 34 i else if i < N + n then ((400 * S + 0 + (i - N) : Nat) : Int) else σ 34 (i - n) := ⟨_, fun _ => rfl⟩
  have io := ins_ok (k' := fun i => if i < N then σ 8 i else if i < N + n then ((401 * S + 0 + (i - N) : Nat) : Int) else σ 8 (i - n)) (F' := F') (σ := σ) (N := N) (n := n) (p := N) (s := S) (f := 0) (by omega) (by omega) old h2.2.2.2.2.2 (fun i q hi hq => by have := h2.2.2.2.2.1 i hi; omega) (fun _ _ => rfl) hF' (by omega)
  have Finj := io.2
  have keys : ∀ i : Nat, i < N → 0 ≤ σ 8 i ∧ σ 8 i < 4812 := fun i hi => by have := old i hi; omega
  have hNS := h2.2.1
  obtain ⟨σ0, hσ0⟩ : ∃ σ0, σ0 = ho_up (ho_up σ 1 5 ((S + 1 : Nat) : Int)) 12 S (n : Int) := ⟨_, rfl⟩
  have a12 : ∀ i, σ0 12 i = if i = S then (n : Int) else σ 12 i := fun i => by
    rw [hσ0]
    by_cases q : i = S
    · subst q; rw [if_pos rfl, ho_upE]
    · rw [if_neg q, ho_upJ q, ho_upF (show (12 : Nat) ≠ 1 by decide)]
  have a15 : σ0 1 5 = ((S + 1 : Nat) : Int) := by rw [hσ0, ho_upF (show (1 : Nat) ≠ 12 by decide), ho_upE]
  have a16 : σ0 1 6 = (N : Int) := by rw [hσ0, ho_upF (show (1 : Nat) ≠ 12 by decide), ho_upJ (show (6 : Nat) ≠ 5 by decide)]; exact h1.2.2.1
  have ak : ∀ k, k ≠ 12 → k ≠ 1 → σ0 k = σ k := fun k a1 a2 => by rw [hσ0, ho_upF a1, ho_upF a2]
  have s0 : sm pFi σ σ0 := by rw [hσ0]; exact sm_up (sm_up sm_rf rfl) rfl
  rw [← hσ0]
  clear hσ0
  rw [a16]
  refine sp_putIn (by omega) (by omega) (by omega) (by omega) (by omega) (by omega) (by rw [a16]; omega) (by rw [a16]; omega) (fun i hi => by rw [ak 8 (by omega) (by omega)]; exact keys i (by rw [a16] at hi; omega)) (fun k' k1 => ?_)
  rw [a16, ak 8 (by omega) (by omega)] at k1
  rw [a16, ak 10 (by omega) (by omega), show ((N : Int) + (n : Int)) = ((N + n : Nat) : Int) by omega, show (((N + n : Nat) : Int) - (N : Int)).toNat = N + n - N by omega, Int.toNat_natCast]
  simp only [Int.toNat_natCast] at k1
  have kk : ∀ i, i < N + n → k' i = if i < N then σ 8 i else if i < N + n then ((401 * S + 0 + (i - N) : Nat) : Int) else σ 8 (i - n) := fun i hi => by
    rw [k1 i (by omega)]
    by_cases y1 : i < N
    · rw [if_pos (by omega), if_pos y1]
    · rw [if_neg (by omega), if_neg y1]
      by_cases y2 : i < N + n
      · rw [if_pos (by omega), if_pos y2]; omega
      · rw [if_neg (by omega), if_neg y2]
  have kFR : FR k' F' (N + n) := fun i hi => by rw [kk i hi]; exact io.1 i hi
  clear k1 io
  obtain ⟨σ1, hσ1⟩ : ∃ σ1, σ1 = sa (ho_up (sa σ0 8 k') 1 6 ((N + n : Nat) : Int)) 10 (rnum k' (σ 10) N (N + n - N)) := ⟨_, rfl⟩
  have v8 : σ1 8 = k' := by rw [hσ1, saF (show (8 : Nat) ≠ 10 by decide), ho_upF (show (8 : Nat) ≠ 1 by decide), saE]
  have v10 : σ1 10 = rnum k' (σ 10) N (N + n - N) := by rw [hσ1, saE]
  have v16 : σ1 1 6 = ((N + n : Nat) : Int) := by rw [hσ1, saF (show (1 : Nat) ≠ 10 by decide), ho_upE]
  have v15 : σ1 1 5 = ((S + 1 : Nat) : Int) := by rw [hσ1, saF (show (1 : Nat) ≠ 10 by decide), ho_upJ (show (5 : Nat) ≠ 6 by decide), saF (show (1 : Nat) ≠ 8 by decide)]; exact a15
  have vk0 : ∀ k, k ≠ 10 → k ≠ 1 → k ≠ 8 → σ1 k = σ0 k := fun k a1 a2 a3 => by rw [hσ1, saF a1, ho_upF a2, saF a3]
  have vk : ∀ k, k ≠ 10 → k ≠ 1 → k ≠ 8 → k ≠ 12 → σ1 k = σ k := fun k a1 a2 a3 a4 => (vk0 k a1 a2 a3).trans (ak k a4 a2)
  have s1 : sm pFi σ σ1 := by rw [hσ1]; exact sm_sa (sm_up (sm_sa s0 (fun _ => rfl)) rfl) (fun _ => rfl)
  rw [← hσ1]
  clear hσ1
  refine tau (fun τ sτ τ54 eτ => ?_)
  have wk : ∀ k, k ≠ 54 → k ≠ 10 → k ≠ 1 → k ≠ 8 → k ≠ 12 → τ k = σ k := fun k a0 a1 a2 a3 a4 => by rw [eτ k a0, vk k a1 a2 a3 a4]
  have q30 := wk 30 (by omega) (by omega) (by omega) (by omega) (by omega)
  have q34 := wk 34 (by omega) (by omega) (by omega) (by omega) (by omega)
  have q33 := wk 33 (by omega) (by omega) (by omega) (by omega) (by omega)
  have q31 := wk 31 (by omega) (by omega) (by omega) (by omega) (by omega)
  have q13 := wk 13 (by omega) (by omega) (by omega) (by omega) (by omega)
  have q14 := wk 14 (by omega) (by omega) (by omega) (by omega) (by omega)
  have q15 := wk 15 (by omega) (by omega) (by omega) (by omega) (by omega)
  have q12 : τ 12 = σ0 12 := by rw [eτ 12 (by omega), vk0 12 (by omega) (by omega) (by omega)]
  have q8 : τ 8 = k' := by rw [eτ 8 (by omega), v8]
  have q10 : τ 10 = rnum k' (σ 10) N (N + n - N) := by rw [eτ 10 (by omega), v10]
  have p16 : τ 1 6 = ((N + n : Nat) : Int) := by rw [eτ 1 (by omega)]; exact v16
  have p15 : τ 1 5 = ((S + 1 : Nat) : Int) := by rw [eτ 1 (by omega)]; exact v15
  have sT : sm pFi σ τ := sm_tr s1 (sm_w sτ pFi_sc)
  have m1 : τ 30 1 = (S : Int) := by rw [q30]; exact e31
  simp only [mX7_addShot, fX7_addShot, u_eC, u_eV, u_eF, u_eR, u_eI, u_eL, u_eB, u_eD, u_eM, u_eU, u_aN, u_aC, u_eK, u_eT, u_cLt, u_cLe, u_cGt, u_cGe, u_cEq, u_cNe, u_cAnd, u_cOr, u_cNot, u_zN, u_zS, u_zD, u_zL, u_zI, u_zB, u_zP, u_zF, u_zA, u_zU, u_zC, u_zR, u_zRZ, u_zRC, u_zRV, u_zT, u_zE, u_zK, u_zY, ho_nid, List.getD_cons_zero, List.getD_cons_succ, List.set_cons_zero, List.set_cons_succ, List.cons_append, List.nil_append, List.take_succ_cons, List.take_zero, Int.reduceToNat, Int.toNat_natCast, nN_0, nN_1, nN_2, nN_3, nN_4, nN_5, nN_6, nN_7, nN_8, nN_9, nN_10, nN_11, nN_12, nN_13, nN_14, nN_15, nN_16, nN_17, nN_18, nN_19, nN_20, nN_21, nN_22, nN_23, nN_24, nN_25, nN_26, nN_27, nN_28, nN_29, nN_30, nN_31, nN_32, nN_33, nN_34, nN_35, nN_36, nN_37, nN_38, nN_39, nN_40, nN_41, nN_42, nN_43, nN_44, nN_45, nN_46, nN_47, nN_48, nN_49, nN_50, nN_51, nN_52, nN_53, nN_54, nR_0_0, nR_0_1, nR_0_2, nR_0_3, nR_0_4, nR_0_5, nR_0_6, nR_0_7, nR_0_8, nR_0_9, nR_0_10, nR_1_0, nR_1_1, nR_1_2, nR_1_3, nR_1_4, nR_2_0, nR_2_1, nR_2_2, nR_2_3, nR_2_4, nR_3_0, nR_3_1, nR_4_2, nR_5_2, nR_6_0, nR_6_1, nR_6_2, nR_7_0, nR_30_2, nR_30_3, nR_30_4, nR_30_6, nR_30_7, nR_30_9, nR_30_10, nR_30_11, nR_30_12, nR_30_13, nR_30_14, nR_30_15, nR_30_16, nR_30_18, nR_30_19, nR_30_20, nR_30_21, nR_30_22, nR_30_23, nR_30_24, nR_30_28, nR_30_29, nR_30_31, sp_in, zlt, zle, zl1, zl2, zl3, z1l, z2l, z3l, z1e, z2e, z3e, z1n, z2n, z3n, z0n, z0e, true_implies, false_implies, and_true, true_and, ho_upE, bI_ne, bI_eq, true_or, or_true, m1]
  refine ⟨fun _ => ⟨fun w => by omega, fun _ => ?_⟩, fun w => absurd (show 1 ≤ (n : Int) ∧ (n : Int) ≤ 400 by omega) w⟩
  simp only [mR_30_2, mR_30_3, mR_30_4, mR_30_6, mR_30_7, mR_30_9, mR_30_10, mR_30_11, mR_30_12, mR_30_13, mR_30_14, mR_30_15, mR_30_16, mR_30_18, mR_30_19, mR_30_20, mR_30_21, mR_30_22, mR_30_23, mR_30_24, mR_30_28, mR_30_29, mR_30_31, mR_0_9, mR_7_0, nN_25, nN_26, nN_27, nN_28, nN_29, nN_30, nN_31, nN_32, nN_33, nN_34, nN_35, nN_36, nN_37, nN_38, nN_39, nN_40, nN_41, nN_42, nN_43, nN_44, nN_45, nN_46, nN_47, nN_48, nN_49, nN_50, nN_51, nN_52, nN_53, nN_54, Int.toNat_natCast, saF, saE, ho_upF, ho_upE, ne_eq, not_false_eq_true, Nat.reduceEqDiff]
  have o1 : ho_up τ 30 0 0 30 1 = (S : Int) := by rw [ho_upJ (show (1 : Nat) ≠ 0 by decide)]; exact m1
  rw [o1, Int.toNat_natCast]
  refine ⟨by omega, ?_⟩
  obtain ⟨τ1, hτ1⟩ : ∃ τ1, τ1 = ho_up (ho_up τ 30 0 0) 31 S (n : Int) := ⟨_, rfl⟩
  have b31 : ∀ i, τ1 31 i = if i = S then (n : Int) else σ 31 i := fun i => by
    rw [hτ1]
    by_cases q : i = S
    · subst q; rw [if_pos rfl, ho_upE]
    · rw [if_neg q, ho_upJ q, ho_upF (show (31 : Nat) ≠ 30 by decide), q31]
  have bk : ∀ k, k ≠ 31 → k ≠ 30 → τ1 k = τ k := fun k a1 a2 => by rw [hτ1, ho_upF a1, ho_upF a2]
  have b3 : ∀ i, i ≠ 0 → τ1 30 i = σ 30 i := fun i hi => by rw [hτ1, ho_upF (show (30 : Nat) ≠ 31 by decide), ho_upJ hi, q30]
  have b30 : τ1 30 0 = 0 := by rw [hτ1, ho_upF (show (30 : Nat) ≠ 31 by decide), ho_upE]
  have sb : sm pFi σ τ1 := by rw [hτ1]; exact sm_up (sm_up sT rfl) rfl
  rw [← hτ1]
  clear hτ1
  refine zW_rule (fun v σ' m => ∃ k : Nat, (k ≤ n) ∧ v = [30, (n : Int), (k : Int)] ∧ m = n - k ∧ sm (fun k i => Nat.beq k 33 || (Nat.beq k 34 || (Nat.beq k 30 && Nat.beq i 5))) τ1 σ' ∧ σ' 33 = σ 33 ∧ σ' 30 5 = ((N + k : Nat) : Int) ∧ ∀ i, i < N + k → σ' 34 i = F' i) _ ⟨0, by omega, rfl, rfl, sm_rf, by rw [bk 33 (by omega) (by omega), q33], by rw [b3 5 (by omega)]; exact e5, fun i hi => by rw [bk 34 (by omega) (by omega), q34, hF', if_pos (by omega)]⟩ ?_
  rintro v σ3 m ⟨k, hk, rfl, rfl, s3, x33, x5, x34⟩ KK KE hKK hKE
  have x1 : σ3 30 1 = (S : Int) := by rw [s3 30 1 rfl, b3 1 (by omega)]; exact e31
  have e400 : k < n → ho_oadd (ho_omul 400 (S : Int)) (k : Int) = ((400 * S + k : Nat) : Int) := fun q => by rw [wmu (by omega) (by omega), wad (by omega) (by omega)]; omega
  simp only [u_eC, u_eV, u_eF, u_eR, u_eI, u_eL, u_eB, u_eD, u_eM, u_eU, u_aN, u_aC, u_eK, u_eT, u_cLt, u_cLe, u_cGt, u_cGe, u_cEq, u_cNe, u_cAnd, u_cOr, u_cNot, u_zN, u_zS, u_zD, u_zL, u_zI, u_zB, u_zP, u_zF, u_zA, u_zU, u_zC, u_zR, u_zRZ, u_zRC, u_zRV, u_zT, u_zE, u_zK, u_zY, ho_nid, List.getD_cons_zero, List.getD_cons_succ, List.set_cons_zero, List.set_cons_succ, List.cons_append, List.nil_append, List.take_succ_cons, List.take_zero, Int.reduceToNat, Int.toNat_natCast, nN_0, nN_1, nN_2, nN_3, nN_4, nN_5, nN_6, nN_7, nN_8, nN_9, nN_10, nN_11, nN_12, nN_13, nN_14, nN_15, nN_16, nN_17, nN_18, nN_19, nN_20, nN_21, nN_22, nN_23, nN_24, nN_25, nN_26, nN_27, nN_28, nN_29, nN_30, nN_31, nN_32, nN_33, nN_34, nN_35, nN_36, nN_37, nN_38, nN_39, nN_40, nN_41, nN_42, nN_43, nN_44, nN_45, nN_46, nN_47, nN_48, nN_49, nN_50, nN_51, nN_52, nN_53, nN_54, nR_0_0, nR_0_1, nR_0_2, nR_0_3, nR_0_4, nR_0_5, nR_0_6, nR_0_7, nR_0_8, nR_0_9, nR_0_10, nR_1_0, nR_1_1, nR_1_2, nR_1_3, nR_1_4, nR_2_0, nR_2_1, nR_2_2, nR_2_3, nR_2_4, nR_3_0, nR_3_1, nR_4_2, nR_5_2, nR_6_0, nR_6_1, nR_6_2, nR_7_0, nR_30_2, nR_30_3, nR_30_4, nR_30_6, nR_30_7, nR_30_9, nR_30_10, nR_30_11, nR_30_12, nR_30_13, nR_30_14, nR_30_15, nR_30_16, nR_30_18, nR_30_19, nR_30_20, nR_30_21, nR_30_22, nR_30_23, nR_30_24, nR_30_28, nR_30_29, nR_30_31, saF, saE, ho_upF, ho_upE, ne_eq, not_false_eq_true, Nat.reduceEqDiff, x1, x5]
  simp only [mR_30_2, mR_30_3, mR_30_4, mR_30_6, mR_30_7, mR_30_9, mR_30_10, mR_30_11, mR_30_12, mR_30_13, mR_30_14, mR_30_15, mR_30_16, mR_30_18, mR_30_19, mR_30_20, mR_30_21, mR_30_22, mR_30_23, mR_30_24, mR_30_28, mR_30_29, mR_30_31, mR_0_9, mR_7_0, nN_25, nN_26, nN_27, nN_28, nN_29, nN_30, nN_31, nN_32, nN_33, nN_34, nN_35, nN_36, nN_37, nN_38, nN_39, nN_40, nN_41, nN_42, nN_43, nN_44, nN_45, nN_46, nN_47, nN_48, nN_49, nN_50, nN_51, nN_52, nN_53, nN_54, Int.toNat_natCast, saF, saE, ho_upF, ho_upE, ne_eq, not_false_eq_true, Nat.reduceEqDiff, x1, x5]
  refine ⟨fun z1 => ?_, fun z1 => hKE _ ?_⟩
  · rw [e400 (by omega), inc (by omega)]
    rw [oinc (show N + k < 100000 by omega), Int.toNat_natCast]
    refine ⟨by omega, by omega, hKK _ _ (n - (k + 1)) (by omega) ⟨k + 1, by omega, rfl, rfl, sm_up (sm_up (sm_up s3 rfl) rfl) rfl, ?_, ho_upE, fun i hi => ?_⟩⟩
    · rw [ho_upF (show (33 : Nat) ≠ 30 by decide), ho_upF (show (33 : Nat) ≠ 34 by decide)]
      funext i
      by_cases q : i = 400 * S + k
      · subst q
        rw [ho_upE]
        exact (h5.2.2.1 _ (by omega) (by omega)).symm
      · rw [ho_upJ q, x33]
    · rw [ho_upF (show (34 : Nat) ≠ 30 by decide)]
      by_cases q : i = N + k
      · subst q
        rw [ho_upE, hF', if_neg (by omega), if_pos (by omega)]
        congr 1
        omega
      · rw [ho_upJ q, ho_upF (show (34 : Nat) ≠ 33 by decide)]
        exact x34 i (by omega)
  have kn : k = n := by omega
  subst kn
  simp only [List.getD_cons_zero, List.getD_cons_succ, List.set_cons_zero, List.set_cons_succ, List.cons_append, List.nil_append, List.take_succ_cons, List.take_zero, Int.reduceToNat, Int.toNat_natCast]
  rw [x1, oinc (show S < 100000 by omega)]
  obtain ⟨τ2, hτ2⟩ : ∃ τ2, τ2 = ho_up σ3 30 1 ((S + 1 : Nat) : Int) := ⟨_, rfl⟩
  have c1 : τ2 30 1 = ((S + 1 : Nat) : Int) := by rw [hτ2, ho_upE]
  have c3 : ∀ i, i ≠ 1 → τ2 30 i = σ3 30 i := fun i hi => by rw [hτ2, ho_upJ hi]
  have ck : ∀ k, k ≠ 30 → τ2 k = σ3 k := fun k a1 => by rw [hτ2, ho_upF a1]
  have sc : sm (fun k i => Nat.beq k 30 && Nat.beq i 1) σ3 τ2 := by rw [hτ2]; exact sm_up sm_rf rfl
  rw [← hτ2]
  clear hτ2
  have c5 : τ2 30 5 = ((N + k : Nat) : Int) := (c3 5 (by omega)).trans x5
  have c33 : τ2 33 = σ 33 := (ck 33 (by omega)).trans x33
  have c34 : ∀ i, i < N + k → τ2 34 i = F' i := fun i hi => by rw [ck 34 (by omega)]; exact x34 i hi
  have FB : ∀ i, i < N + k → 0 ≤ F' i ∧ F' i < 4800 := fun i hi => ⟨(kFR i hi).1, (kFR i hi).2.1⟩
  refine m_settles (F' := F') (S' := S + 1) c1 (by omega) c5 (by omega) (by rw [c3 8 (by omega), s3 30 8 rfl, b3 8 (by omega)]; exact h1.2.2.2.2.2.1) hM c34 FB Finj (by rw [c33]; exact h5.1) (fun υ sυ plm t2 => ?_)
  rw [c33] at t2
  have u30 : ∀ i, υ 30 i = τ2 30 i := fun i => sυ 30 i rfl
  have ux : ∀ k, (∀ j : Nat, (Nat.beq k 32 || (Nat.beq k 37 || Nat.beq k 38)) = false) → (∀ j, (Nat.beq k 33 || (Nat.beq k 34 || (Nat.beq k 30 && Nat.beq j 5))) = false) → k ≠ 30 → υ k = τ1 k := fun k p0 p1 p3 => by rw [sm_fn sυ k p0, ck k p3, sm_fn s3 k p1]
  have uk : ∀ k, (∀ j : Nat, (Nat.beq k 32 || (Nat.beq k 37 || Nat.beq k 38)) = false) → (∀ j, (Nat.beq k 33 || (Nat.beq k 34 || (Nat.beq k 30 && Nat.beq j 5))) = false) → k ≠ 30 → k ≠ 31 → υ k = τ k := fun k p0 p1 p3 p4 => (ux k p0 p1 p3).trans (bk k p4 p3)
  have u34 : ∀ i, i < N + k → υ 34 i = F' i := fun i hi => by rw [sm_fn sυ 34 (fun _ => rfl)]; exact c34 i hi
  have u31 : υ 31 = τ1 31 := ux 31 (fun _ => rfl) (fun _ => rfl) (by omega)
  have u12 : υ 12 = σ0 12 := by rw [uk 12 (fun _ => rfl) (fun _ => rfl) (by omega) (by omega), q12]
  have u8 : υ 8 = k' := by rw [uk 8 (fun _ => rfl) (fun _ => rfl) (by omega) (by omega), q8]
  have u10 : υ 10 = rnum k' (σ 10) N (N + k - N) := by rw [uk 10 (fun _ => rfl) (fun _ => rfl) (by omega) (by omega), q10]
  have u33 : υ 33 = σ 33 := by rw [sm_fn sυ 33 (fun _ => rfl), c33]
  have u1 : υ 1 = τ 1 := uk 1 (fun _ => rfl) (fun _ => rfl) (by omega) (by omega)
  have u13 : υ 13 = σ 13 := by rw [uk 13 (fun _ => rfl) (fun _ => rfl) (by omega) (by omega), q13]
  have u14 : υ 14 = σ 14 := by rw [uk 14 (fun _ => rfl) (fun _ => rfl) (by omega) (by omega), q14]
  have u15 : υ 15 = σ 15 := by rw [uk 15 (fun _ => rfl) (fun _ => rfl) (by omega) (by omega), q15]
  have u54 : υ 54 = τ 54 := uk 54 (fun _ => rfl) (fun _ => rfl) (by omega) (by omega)
  have us : sm pFi σ υ := sm_tr sb (sm_tr (sm_mo s3 pFi_33) (sm_tr (sm_mo sc pFi_31) (sm_mo sυ pFi_32)))
  have none : ∀ c i, N ≤ i → i < N + k → ¬ bit (σ 33 (F' i).toNat) c = true := fun c i y1 y2 e => by
    rw [hF', if_neg (by omega), if_pos y2, Int.toNat_natCast, h5.2.2.1 _ (by omega) (by omega), bit_zero] at e
    cases e
  have fE : ∀ i, i < N → F' i = σ 34 i := fun i hi => by rw [hF', if_pos hi]
  have lrF : ∀ c s l, LR (fun i => bit (σ 33 (F' i).toNat) c = true) (N + k) s l → LR (fun i => bit (σ 33 (υ 34 i).toNat) c = true) (N + k) s l := fun c s l hl => LR_congr (fun i hi => by rw [u34 i hi]) hl
  have pF : ∀ i, i < N + k → F' i < 400 * ((S + 1 : Nat) : Int) ∧ F' i % 400 < τ1 31 (F' i / 400).toNat := fun i hi => by
    by_cases y1 : i < N
    · have o := h2.2.2.2.2.1 i y1
      have o2 := old i y1
      rw [fE i y1, b31, if_neg (by omega)]
      omega
    · rw [hF', if_neg y1, if_pos hi, b31, if_pos (by omega)]
      omega
  refine ⟨by rw [u30, c3 0 (by omega), s3 30 0 rfl]; exact b30, ?_, Inv_fi (S' := S + 1) (N' := N + k) hj h1 h5 h7 h8 h9 h10 h11 h12 h13 us ⟨by rw [u1]; exact p15, by rw [u30]; exact c1, by rw [u1]; exact p16, by rw [u30]; exact c5⟩ ⟨by omega, by omega, fun s hs => ?_, fun i hi => ?_, fun i hi => ?_, fun i i' hi hi' e => ?_⟩ (fun s f hs hf => ?_) (fun s f hs hf => ?_) (by omega) u33 (fun c hc => ?_) (fun c hc => ?_) (by rw [u15]; exact h6.2.2)⟩
  · rw [u30, c1, odec (by omega)]
    exact (congrFun u54 0).trans τ54
  · rw [u12, u31, a12, b31]
    by_cases q : s = S
    · rw [if_pos q, if_pos q]; omega
    · rw [if_neg q, if_neg q]; exact h2.2.2.1 s (by omega)
  · rw [u8, u34 i hi]; exact kFR i hi
  · rw [u34 i hi, u31]; exact pF i hi
  · rw [u34 i hi, u34 i' hi'] at e; exact Finj i i' hi hi' e
  · rw [u31, b31] at hf
    rw [u8, u10]
    have pr := ins_plc (x := ((401 * s + f : Nat) : Int)) (by omega) (Nat.le_refl _) kFR Finj kk (by
      by_cases q : s = S
      · rw [if_pos q] at hf
        exact Or.inl ⟨N + f, by omega, by omega, by rw [kk _ (by omega), if_neg (by omega), if_pos (by omega), q]; omega⟩
      · rw [if_neg q] at hf
        rw [Int.toNat_natCast]
        exact Or.inr (h3 s f (by omega) hf))
    rw [Int.toNat_natCast] at pr
    exact pr
  · rw [u31, b31] at hf
    have f400 : f < 400 := by
      by_cases q : s = S
      · rw [if_pos q] at hf; omega
      · rw [if_neg q] at hf
        have := h2.2.2.1 s (by omega)
        omega
    have pm := plm ((400 * s + f : Nat) : Int) (by omega) (by omega)
    rw [Int.toNat_natCast] at pm
    exact PLC_F pm (fun i hi => u34 i hi)
  · rw [u13, u14]
    refine lrF c _ _ ?_
    by_cases q : c < M
    · have t := h6.1 c q
      rw [t.1, t.2.1]
      exact LR_offs (LR_congr (fun i hi => by rw [fE i hi]) t.2.2) (by omega) (none c)
    · have t := h6.2.1 c (by omega) hc
      rw [t.1, t.2]
      refine LR_offs LR_nil (Nat.zero_le _) (fun i _ hi e => ?_)
      have o := FB i hi
      rw [h5.2.2.2 _ (by omega) c (by omega) hc] at e
      cases e
  · exact lrF c _ _ (t2 c hc)
