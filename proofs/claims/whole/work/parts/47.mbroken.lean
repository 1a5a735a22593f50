theorem sp_misClose {c M N : Nat} {σ : ho_S} {Q : ho_K} {X : ho_X} (hc : c < M) (hM : σ 30 8 = (M : Int)) (hM1 : M ≤ 16) (hN : N ≤ 4800) (hTM : TM (σ 37) (σ 38) M N) (hQ : Q (bI (anyb (closeP (σ 37) (σ 38) (σ 36) c) M = true)) σ) : mX7_isClose [30, (c : Int)] σ Q X := by
  have tc := hTM c hc
  simp only [mX7_isClose, fX7_isClose, u_eC, u_eV, u_eF, u_eR, u_eI, u_eL, u_eB, u_eD, u_eM, u_eU, u_aN, u_aC, u_eK, u_eT, u_cLt, u_cLe, u_cGt, u_cGe, u_cEq, u_cNe, u_cAnd, u_cOr, u_cNot, u_zN, u_zS, u_zD, u_zL, u_zI, u_zB, u_zP, u_zF, u_zA, u_zU, u_zC, u_zR, u_zRZ, u_zRC, u_zRV, u_zT, u_zE, u_zK, u_zY, ho_nid, List.getD_cons_zero, List.getD_cons_succ, List.set_cons_zero, List.set_cons_succ, List.cons_append, List.nil_append, List.take_succ_cons, List.take_zero, Int.reduceToNat, Int.toNat_natCast, nN_0, nN_1, nN_2, nN_3, nN_4, nN_5, nN_6, nN_7, nN_8, nN_9, nN_10, nN_11, nN_12, nN_13, nN_14, nN_15, nN_16, nN_17, nN_18, nN_19, nN_20, nN_21, nN_22, nN_23, nN_24, nN_25, nN_26, nN_27, nN_28, nN_29, nN_30, nN_31, nN_32, nN_33, nN_34, nN_35, nN_36, nN_37, nN_38, nN_39, nN_40, nN_41, nN_42, nN_43, nN_44, nN_45, nN_46, nN_47, nN_48, nN_49, nN_50, nN_51, nN_52, nN_53, nN_54, nR_0_0, nR_0_1, nR_0_2, nR_0_3, nR_0_4, nR_0_5, nR_0_6, nR_0_7, nR_0_8, nR_0_9, nR_0_10, nR_1_0, nR_1_1, nR_1_2, nR_1_3, nR_1_4, nR_2_0, nR_2_1, nR_2_2, nR_2_3, nR_2_4, nR_3_0, nR_3_1, nR_4_2, nR_5_2, nR_6_0, nR_6_1, nR_6_2, nR_7_0, nR_30_2, nR_30_3, nR_30_4, nR_30_6, nR_30_7, nR_30_9, nR_30_10, nR_30_11, nR_30_12, nR_30_13, nR_30_14, nR_30_15, nR_30_16, nR_30_18, nR_30_19, nR_30_20, nR_30_21, nR_30_22, nR_30_23, nR_30_24, nR_30_28, nR_30_29, nR_30_31]
  simp only [mR_30_2, mR_30_3, mR_30_4, mR_30_6, mR_30_7, mR_30_9, mR_30_10, mR_30_11, mR_30_12, mR_30_13, mR_30_14, mR_30_15, mR_30_16, mR_30_18, mR_30_19, mR_30_20, mR_30_21, mR_30_22, mR_30_23, mR_30_24, mR_30_28, mR_30_29, mR_30_31, mR_0_9, mR_7_0, nN_25, nN_26, nN_27, nN_28, nN_29, nN_30, nN_31, nN_32, nN_33, nN_34, nN_35, nN_36, nN_37, nN_38, nN_39, nN_40, nN_41, nN_42, nN_43, nN_44, nN_45, nN_46, nN_47, nN_48, nN_49, nN_50, nN_51, nN_52, nN_53, nN_54, Int.toNat_natCast]
  rw [wad (by omega) (by omega)]
  refine ⟨by omega, by omega, ?_⟩
  refine zW_rule (fun v σ' m => ∃ k : Nat, (k ≤ M) ∧ v = [30, (c : Int), bI (anyb (closeP (σ 37) (σ 38) (σ 36) c) k = true), σ 37 c + σ 38 c, (k : Int)] ∧ m = M - k ∧ σ' = σ) _ ⟨0, by omega, by rw [bI_f (show ¬ (anyb (closeP (σ 37) (σ 38) (σ 36) c) 0 = true) from fun z => by cases z)]; rfl, rfl, rfl⟩ ?_
  rintro v σ' m ⟨k, hk, rfl, rfl, rfl⟩ KK KE hKK hKE
  simp only [u_eC, u_eV, u_eF, u_eR, u_eI, u_eL, u_eB, u_eD, u_eM, u_eU, u_aN, u_aC, u_eK, u_eT, u_cLt, u_cLe, u_cGt, u_cGe, u_cEq, u_cNe, u_cAnd, u_cOr, u_cNot, u_zN, u_zS, u_zD, u_zL, u_zI, u_zB, u_zP, u_zF, u_zA, u_zU, u_zC, u_zR, u_zRZ, u_zRC, u_zRV, u_zT, u_zE, u_zK, u_zY, ho_nid, List.getD_cons_zero, List.getD_cons_succ, List.set_cons_zero, List.set_cons_succ, List.cons_append, List.nil_append, List.take_succ_cons, List.take_zero, Int.reduceToNat, Int.toNat_natCast, nN_0, nN_1, nN_2, nN_3, nN_4, nN_5, nN_6, nN_7, nN_8, nN_9, nN_10, nN_11, nN_12, nN_13, nN_14, nN_15, nN_16, nN_17, nN_18, nN_19, nN_20, nN_21, nN_22, nN_23, nN_24, nN_25, nN_26, nN_27, nN_28, nN_29, nN_30, nN_31, nN_32, nN_33, nN_34, nN_35, nN_36, nN_37, nN_38, nN_39, nN_40, nN_41, nN_42, nN_43, nN_44, nN_45, nN_46, nN_47, nN_48, nN_49, nN_50, nN_51, nN_52, nN_53, nN_54, nR_0_0, nR_0_1, nR_0_2, nR_0_3, nR_0_4, nR_0_5, nR_0_6, nR_0_7, nR_0_8, nR_0_9, nR_0_10, nR_1_0, nR_1_1, nR_1_2, nR_1_3, nR_1_4, nR_2_0, nR_2_1, nR_2_2, nR_2_3, nR_2_4, nR_3_0, nR_3_1, nR_4_2, nR_5_2, nR_6_0, nR_6_1, nR_6_2, nR_7_0, nR_30_2, nR_30_3, nR_30_4, nR_30_6, nR_30_7, nR_30_9, nR_30_10, nR_30_11, nR_30_12, nR_30_13, nR_30_14, nR_30_15, nR_30_16, nR_30_18, nR_30_19, nR_30_20, nR_30_21, nR_30_22, nR_30_23, nR_30_24, nR_30_28, nR_30_29, nR_30_31, inc (show k < 100000 by omega), bI_ne, bI_eq, hM]
  simp only [mR_30_2, mR_30_3, mR_30_4, mR_30_6, mR_30_7, mR_30_9, mR_30_10, mR_30_11, mR_30_12, mR_30_13, mR_30_14, mR_30_15, mR_30_16, mR_30_18, mR_30_19, mR_30_20, mR_30_21, mR_30_22, mR_30_23, mR_30_24, mR_30_28, mR_30_29, mR_30_31, mR_0_9, mR_7_0, nN_25, nN_26, nN_27, nN_28, nN_29, nN_30, nN_31, nN_32, nN_33, nN_34, nN_35, nN_36, nN_37, nN_38, nN_39, nN_40, nN_41, nN_42, nN_43, nN_44, nN_45, nN_46, nN_47, nN_48, nN_49, nN_50, nN_51, nN_52, nN_53, nN_54, Int.toNat_natCast]
  have nx : ∀ y : Int, k < M → y = bI (anyb (closeP (σ' 37) (σ' 38) (σ' 36) c) (k + 1) = true) → KK [30, (c : Int), y, σ' 37 c + σ' 38 c, ((k + 1 : Nat) : Int)] σ' := fun y hk9 e => hKK _ _ (M - (k + 1)) (by omega) ⟨k + 1, by omega, by rw [e], rfl, rfl⟩
  refine ⟨fun c1 => ?_, fun c1 => hKE _ ?_⟩
  · have hk9 : k < M := by omega
    have tk := hTM k hk9
    rw [wad (by omega) (by omega)]
    have r1 : 0 ≤ (k : Int) ∧ (k : Int) < 16 := by omega
    have r2 : 0 ≤ (c : Int) ∧ (c : Int) < 16 := by omega
    have z1 : ((0 : Int) ≠ 0) = False := by simp
    have z2 : ((1 : Int) ≠ 0) = True := by simp
    have z3 : ((0 : Int) = 0) = True := by simp
    have z4 : ((1 : Int) = 0) = False := by simp
    have z5 : ((0 : Int) = 1) = False := by simp
    have z6 : ((1 : Int) ≠ 1) = False := by simp
    have z7 : ((0 : Int) ≠ 1) = True := by simp
    have z8 : ((1 : Int) = 1) = True := by simp
    simp only [r1, r2, and_self, true_and, z1, z2, z3, z4, z5, z6, z7, z8, false_implies, true_implies, and_true]
    have sv : anyb (closeP (σ' 37) (σ' 38) (σ' 36) c) (k + 1) = true ↔ (anyb (closeP (σ' 37) (σ' 38) (σ' 36) c) k = true ∨ ((σ' 36 k = 3 ↔ σ' 36 c = 3) ∧ 0 < σ' 38 k ∧ ((σ' 37 k = σ' 37 c ∧ c < k) ∨ (σ' 37 c < σ' 37 k ∧ σ' 37 k - (σ' 37 c + σ' 38 c) < 2)))) := by
      show (anyb _ k || _) = true ↔ _
      rw [Bool.or_eq_true]
      unfold closeP
      rw [decide_eq_true_eq]
    have yes : (anyb (closeP (σ' 37) (σ' 38) (σ' 36) c) k = true ∨ ((σ' 36 k = 3 ↔ σ' 36 c = 3) ∧ 0 < σ' 38 k ∧ ((σ' 37 k = σ' 37 c ∧ c < k) ∨ (σ' 37 c < σ' 37 k ∧ σ' 37 k - (σ' 37 c + σ' 38 c) < 2)))) → KK [30, (c : Int), 1, σ' 37 c + σ' 38 c, ((k + 1 : Nat) : Int)] σ' := fun z => nx 1 hk9 (bI_t (sv.mpr z)).symm
    have no : ¬ (anyb (closeP (σ' 37) (σ' 38) (σ' 36) c) k = true ∨ ((σ' 36 k = 3 ↔ σ' 36 c = 3) ∧ 0 < σ' 38 k ∧ ((σ' 37 k = σ' 37 c ∧ c < k) ∨ (σ' 37 c < σ' 37 k ∧ σ' 37 k - (σ' 37 c + σ' 38 c) < 2)))) → KK [30, (c : Int), 0, σ' 37 c + σ' 38 c, ((k + 1 : Nat) : Int)] σ' := fun z => nx 0 hk9 (bI_f (fun w => z (sv.mp w))).symm
    clear nx sv hKK hKE hQ
    generalize anyb (closeP (σ' 37) (σ' 38) (σ' 36) c) k = B at yes no ⊢
    generalize KK [30, (c : Int), 1, σ' 37 c + σ' 38 c, ((k + 1 : Nat) : Int)] σ' = P1 at yes ⊢
    generalize KK [30, (c : Int), 0, σ' 37 c + σ' 38 c, ((k + 1 : Nat) : Int)] σ' = P0 at no ⊢
    have kc : ((k : Int) = (c : Int)) ↔ k = c := by omega
    have kl : ((c : Int) < (k : Int)) ↔ c < k := by omega
    have ks : (k : Int) = (c : Int) → σ' 37 k = σ' 37 c := fun z => by rw [show k = c by omega]
    have tk4 := tk.2.2.2
    have tk1 := tk.1
    clear tk tc hTM
    generalize σ' 37 k = sk at yes no tk4 ks ⊢
    generalize σ' 38 k = lk at yes no tk4 tk1 ⊢
    generalize σ' 37 c = sc at yes no ks ⊢
    generalize σ' 38 c = lc at yes no ⊢
    generalize σ' 36 k = ak at yes no ⊢
    generalize σ' 36 c = ac at yes no ⊢
    clear r1 r2 z1 z2 z3 z4 z5 z6 z7 z8 hM
    by_cases g1 : B = true
    · have y := yes (Or.inl g1)
      simp only [y, implies_true, and_self, g1, not_true_eq_false, false_implies, and_true, true_and]
    · have no' : ¬ ((ak = 3 ↔ ac = 3) ∧ 0 < lk ∧ (sk = sc ∧ c < k ∨ sc < sk ∧ sk - (sc + lc) < 2)) → P0 := fun z => no (fun w => w.elim g1 z)
      have yes' : ((ak = 3 ↔ ac = 3) ∧ 0 < lk ∧ (sk = sc ∧ c < k ∨ sc < sk ∧ sk - (sc + lc) < 2)) → P1 := fun z => yes (Or.inr z)
      simp only [g1, not_false_eq_true, true_implies, false_implies, true_and, Bool.false_eq_true]
      clear yes no
      by_cases g2 : ak = 3 <;> by_cases g3 : ac = 3 <;> by_cases g4 : (k : Int) = (c : Int) <;> by_cases g5 : sk = -1 <;> simp only [g2, g3, g4, g5, ne_eq, not_true_eq_false, not_false_eq_true, true_implies, false_implies, and_true, true_and, implies_true] at yes' no' ⊢ <;> grind
  · have hk9 : k = M := by omega
    subst hk9
    exact ⟨bI_01, hQ⟩
theorem MTX_out {σ : ho_S} {t n i : Nat} {T : Nat → Int} (h : MTX σ t n T) (hi : n ≤ i) : T i = 0 := by
  rw [← h.2.2, tx_out (by rw [h.1]; omega)]
theorem sp_areVoices {T : Nat → Int} {t n : Nat} {σ : ho_S} {Q : ho_K} {X : ho_X} (ht : t < 48) (hT : MTX σ t n T) (hQ : 0 < n → Q (bI (voB T n = true)) σ) (hQ0 : n = 0 → ∀ y, Q y σ) : mX7_areVoices [30, (t : Int)] σ Q X := by
  have hn := hT.2.1
  have ez : σ 41 t = (n : Int) := hT.1
  simp only [mX7_areVoices, fX7_areVoices, u_eC, u_eV, u_eF, u_eR, u_eI, u_eL, u_eB, u_eD, u_eM, u_eU, u_aN, u_aC, u_eK, u_eT, u_cLt, u_cLe, u_cGt, u_cGe, u_cEq, u_cNe, u_cAnd, u_cOr, u_cNot, u_zN, u_zS, u_zD, u_zL, u_zI, u_zB, u_zP, u_zF, u_zA, u_zU, u_zC, u_zR, u_zRZ, u_zRC, u_zRV, u_zT, u_zE, u_zK, u_zY, ho_nid, List.getD_cons_zero, List.getD_cons_succ, List.set_cons_zero, List.set_cons_succ, List.cons_append, List.nil_append, List.take_succ_cons, List.take_zero, Int.reduceToNat, Int.toNat_natCast, nN_0, nN_1, nN_2, nN_3, nN_4, nN_5, nN_6, nN_7, nN_8, nN_9, nN_10, nN_11, nN_12, nN_13, nN_14, nN_15, nN_16, nN_17, nN_18, nN_19, nN_20, nN_21, nN_22, nN_23, nN_24, nN_25, nN_26, nN_27, nN_28, nN_29, nN_30, nN_31, nN_32, nN_33, nN_34, nN_35, nN_36, nN_37, nN_38, nN_39, nN_40, nN_41, nN_42, nN_43, nN_44, nN_45, nN_46, nN_47, nN_48, nN_49, nN_50, nN_51, nN_52, nN_53, nN_54, nR_0_0, nR_0_1, nR_0_2, nR_0_3, nR_0_4, nR_0_5, nR_0_6, nR_0_7, nR_0_8, nR_0_9, nR_0_10, nR_1_0, nR_1_1, nR_1_2, nR_1_3, nR_1_4, nR_2_0, nR_2_1, nR_2_2, nR_2_3, nR_2_4, nR_3_0, nR_3_1, nR_4_2, nR_5_2, nR_6_0, nR_6_1, nR_6_2, nR_7_0, nR_30_2, nR_30_3, nR_30_4, nR_30_6, nR_30_7, nR_30_9, nR_30_10, nR_30_11, nR_30_12, nR_30_13, nR_30_14, nR_30_15, nR_30_16, nR_30_18, nR_30_19, nR_30_20, nR_30_21, nR_30_22, nR_30_23, nR_30_24, nR_30_28, nR_30_29, nR_30_31, (show ho_omul 60 (t : Int) = ((60 * t + 0 : Nat) : Int) from by rw [wmu (by omega) (by omega)]; simp)]
  simp only [mR_30_2, mR_30_3, mR_30_4, mR_30_6, mR_30_7, mR_30_9, mR_30_10, mR_30_11, mR_30_12, mR_30_13, mR_30_14, mR_30_15, mR_30_16, mR_30_18, mR_30_19, mR_30_20, mR_30_21, mR_30_22, mR_30_23, mR_30_24, mR_30_28, mR_30_29, mR_30_31, mR_0_9, mR_7_0, nN_25, nN_26, nN_27, nN_28, nN_29, nN_30, nN_31, nN_32, nN_33, nN_34, nN_35, nN_36, nN_37, nN_38, nN_39, nN_40, nN_41, nN_42, nN_43, nN_44, nN_45, nN_46, nN_47, nN_48, nN_49, nN_50, nN_51, nN_52, nN_53, nN_54, Int.toNat_natCast, ez]
  have main : ∀ (x : Int) (Q9 : List Int → ho_S → Prop), (x = bI (0 < n ∧ T 0 = 45)) → Q9 [30, (t : Int), 1 + cnt (brP T) n, bI ((0 < n ∧ T 0 = 45) ∧ cnt (brP T) n = cnt (bdP T) n), (n : Int)] σ → zW (cLt (eV 4) (eI (eR (eV 0) 14) (eV 1))) (zS (zB 5 (zS (zD (eT (cEq (eI (eR (eV 0) 15) (eB ho_oadd (eB ho_omul (eC 60) (eV 1)) (eV 4))) (eC 10)) (eC 1) (eC 0))) (zS (zL 2 (eB ho_oadd (eV 2) (eT (cNe (eV 5) (eC 0)) (eC 1) (eC 0)))) (zL 3 (eT (cAnd (cNe (eV 3) (eC 0)) (cOr (cNot (cNe (eV 5) (eC 0))) (cAnd (cLt (eB ho_oadd (eV 4) (eC 1)) (eI (eR (eV 0) 14) (eV 1))) (cEq (eI (eR (eV 0) 15) (eB ho_oadd (eB ho_oadd (eB ho_omul (eC 60) (eV 1)) (eV 4)) (eC 1))) (eC 45))))) (eC 1) (eC 0)))))) (zI 4 1)) [30, (t : Int), 1, x, 0] σ Q9 Q X := by
    intro x Q9 hx hQ9
    refine zW_rule (fun v σ' m => ∃ k : Nat, (k ≤ n) ∧ v = [30, (t : Int), 1 + cnt (brP T) k, bI ((0 < n ∧ T 0 = 45) ∧ cnt (brP T) k = cnt (bdP T) k), (k : Int)] ∧ m = n - k ∧ σ' = σ) _ ⟨0, by omega, ?_, rfl, rfl⟩ ?_
    · rw [hx, bI_c (show (0 < n ∧ T 0 = 45) ↔ ((0 < n ∧ T 0 = 45) ∧ cnt (brP T) 0 = cnt (bdP T) 0) from ⟨fun z => ⟨z, rfl⟩, fun z => z.1⟩)]
      show _ = [30, (t : Int), 1 + 0, _, _]
      rw [Int.add_zero]; rfl
    rintro v σ' m ⟨k, hk, rfl, rfl, rfl⟩ KK KE hKK hKE
    have r1 := cnt_range (brP T) k
    have le := bd_le T k
    simp only [u_eC, u_eV, u_eF, u_eR, u_eI, u_eL, u_eB, u_eD, u_eM, u_eU, u_aN, u_aC, u_eK, u_eT, u_cLt, u_cLe, u_cGt, u_cGe, u_cEq, u_cNe, u_cAnd, u_cOr, u_cNot, u_zN, u_zS, u_zD, u_zL, u_zI, u_zB, u_zP, u_zF, u_zA, u_zU, u_zC, u_zR, u_zRZ, u_zRC, u_zRV, u_zT, u_zE, u_zK, u_zY, ho_nid, List.getD_cons_zero, List.getD_cons_succ, List.set_cons_zero, List.set_cons_succ, List.cons_append, List.nil_append, List.take_succ_cons, List.take_zero, Int.reduceToNat, Int.toNat_natCast, nN_0, nN_1, nN_2, nN_3, nN_4, nN_5, nN_6, nN_7, nN_8, nN_9, nN_10, nN_11, nN_12, nN_13, nN_14, nN_15, nN_16, nN_17, nN_18, nN_19, nN_20, nN_21, nN_22, nN_23, nN_24, nN_25, nN_26, nN_27, nN_28, nN_29, nN_30, nN_31, nN_32, nN_33, nN_34, nN_35, nN_36, nN_37, nN_38, nN_39, nN_40, nN_41, nN_42, nN_43, nN_44, nN_45, nN_46, nN_47, nN_48, nN_49, nN_50, nN_51, nN_52, nN_53, nN_54, nR_0_0, nR_0_1, nR_0_2, nR_0_3, nR_0_4, nR_0_5, nR_0_6, nR_0_7, nR_0_8, nR_0_9, nR_0_10, nR_1_0, nR_1_1, nR_1_2, nR_1_3, nR_1_4, nR_2_0, nR_2_1, nR_2_2, nR_2_3, nR_2_4, nR_3_0, nR_3_1, nR_4_2, nR_5_2, nR_6_0, nR_6_1, nR_6_2, nR_7_0, nR_30_2, nR_30_3, nR_30_4, nR_30_6, nR_30_7, nR_30_9, nR_30_10, nR_30_11, nR_30_12, nR_30_13, nR_30_14, nR_30_15, nR_30_16, nR_30_18, nR_30_19, nR_30_20, nR_30_21, nR_30_22, nR_30_23, nR_30_24, nR_30_28, nR_30_29, nR_30_31, inc (show k < 100000 by omega), oinc (show k < 100000 by omega), o60 (show t < 1000 by omega) (show k < 1000 by omega), oinc (show 60 * t + k < 100000 by omega), bI_ne, bI_eq]
    simp only [mR_30_2, mR_30_3, mR_30_4, mR_30_6, mR_30_7, mR_30_9, mR_30_10, mR_30_11, mR_30_12, mR_30_13, mR_30_14, mR_30_15, mR_30_16, mR_30_18, mR_30_19, mR_30_20, mR_30_21, mR_30_22, mR_30_23, mR_30_24, mR_30_28, mR_30_29, mR_30_31, mR_0_9, mR_7_0, nN_25, nN_26, nN_27, nN_28, nN_29, nN_30, nN_31, nN_32, nN_33, nN_34, nN_35, nN_36, nN_37, nN_38, nN_39, nN_40, nN_41, nN_42, nN_43, nN_44, nN_45, nN_46, nN_47, nN_48, nN_49, nN_50, nN_51, nN_52, nN_53, nN_54, Int.toNat_natCast, ez]
    have nx : ∀ x y : Int, k < n → x = 1 + cnt (brP T) (k + 1) → y = bI ((0 < n ∧ T 0 = 45) ∧ cnt (brP T) (k + 1) = cnt (bdP T) (k + 1)) → KK [30, (t : Int), x, y, ((k + 1 : Nat) : Int)] σ' := fun x y hk9 e e' => hKK _ _ (n - (k + 1)) (by omega) ⟨k + 1, by omega, by rw [e, e'], rfl, rfl⟩
    refine ⟨by omega, fun c1 => ?_, fun c1 => hKE _ ?_⟩
    · have hk9 : k < n := by omega
      have s1 : cnt (brP T) (k + 1) = cnt (brP T) k + (if brP T k = true then 1 else 0) := rfl
      have s2 : cnt (bdP T) (k + 1) = cnt (bdP T) k + (if bdP T k = true then 1 else 0) := rfl
      have r2 := cnt_range (bdP T) k
      rw [MTX_at hT hk9]
      have z1 : ((0 : Int) ≠ 0) = False := by simp
      have z2 : ((1 : Int) ≠ 0) = True := by simp
      have z3 : ((0 : Int) = 0) = True := by simp
      have z4 : ((1 : Int) = 0) = False := by simp
      simp only [z1, z2, z3, z4, false_implies, true_implies, and_true, true_and]
      rw [wad (by omega) (by omega), wad (by omega) (by omega)]
      refine ⟨by omega, fun c2 => ?_, fun c2 => ?_⟩
      · rw [if_pos (show brP T k = true from decide_eq_true c2)] at s1
        refine ⟨fun c3 => ⟨by omega, fun c4 => ?_, fun c4 => ?_⟩, fun c3 => ?_⟩
        · have hk1 : k + 1 < n := by omega
          rw [show 60 * t + k + 1 = 60 * t + (k + 1) by omega, MTX_at hT hk1]
          refine ⟨by omega, fun c5 => ?_, fun c5 => ?_⟩
          · rw [if_pos (show bdP T k = true from decide_eq_true ⟨c2, c5⟩)] at s2
            exact nx _ _ hk9 (by omega) (bI_t ⟨c3.1, by omega⟩).symm
          · rw [if_neg (show ¬ bdP T k = true from fun z => c5 (of_decide_eq_true z).2)] at s2
            exact nx _ _ hk9 (by omega) (bI_f (fun z => by have := z.2; omega)).symm
        · have c5 : T (k + 1) = 0 := MTX_out hT (by omega)
          rw [if_neg (show ¬ bdP T k = true from fun z => by have := (of_decide_eq_true z).2; omega)] at s2
          exact nx _ _ hk9 (by omega) (bI_f (fun z => by have := z.2; omega)).symm
        · refine nx _ _ hk9 (by omega) (bI_f (fun z => c3 ⟨z.1, ?_⟩)).symm
          have := z.2
          split at s2 <;> omega
      · rw [if_neg (show ¬ brP T k = true from fun z => c2 (of_decide_eq_true z))] at s1
        rw [if_neg (show ¬ bdP T k = true from fun z => c2 (of_decide_eq_true z).1)] at s2
        refine ⟨fun c3 => nx _ _ hk9 (by omega) (bI_t ⟨c3.1, by omega⟩).symm, fun c3 => nx _ _ hk9 (by omega) (bI_f (fun z => c3 ⟨z.1, by omega⟩)).symm⟩
    · have hkn : k = n := by omega
      subst hkn
      exact hQ9
  have fin : ((bI ((0 < n ∧ T 0 = 45) ∧ cnt (brP T) n = cnt (bdP T) n) ≠ 0 → (1 + cnt (brP T) n = 2 → Q 1 σ) ∧ (1 + cnt (brP T) n ≠ 2 → Q 0 σ)) ∧ (bI ((0 < n ∧ T 0 = 45) ∧ cnt (brP T) n = cnt (bdP T) n) = 0 → Q 0 σ)) := by
    simp only [bI_ne, bI_eq]
    by_cases h0 : 0 < n
    · have q := hQ h0
      have y : (T 0 = 45 ∧ cnt (brP T) n = 1 ∧ cnt (bdP T) n = 1) → Q 1 σ := fun z => by rw [bI_t (show voB T n = true from decide_eq_true z)] at q; exact q
      have no : ¬ (T 0 = 45 ∧ cnt (brP T) n = 1 ∧ cnt (bdP T) n = 1) → Q 0 σ := fun z => by rw [bI_f (show ¬ voB T n = true from fun w => z (of_decide_eq_true w))] at q; exact q
      refine ⟨fun a => ⟨fun b => y ⟨a.1.2, by omega, by have := a.2; omega⟩, fun b => no (fun z => b (by omega))⟩, fun a => no (fun z => a ⟨⟨h0, z.1⟩, by omega⟩)⟩
    · have q := hQ0 (by omega)
      exact ⟨fun _ => ⟨fun _ => q 1, fun _ => q 0⟩, fun _ => q 0⟩
  have z1 : ((0 : Int) ≤ ((60 * t + 0 : Nat) : Int) ∧ ((60 * t + 0 : Nat) : Int) < 2880) := by omega
  refine ⟨by omega, fun h0 => ⟨z1, ?_, ?_⟩, fun h0 => ?_⟩
  · rw [MTX_at hT (show 0 < n by omega)]
    intro h1
    refine main 1 _ (bI_t ⟨by omega, h1⟩).symm ?_
    simp only [u_eC, u_eV, u_eF, u_eR, u_eI, u_eL, u_eB, u_eD, u_eM, u_eU, u_aN, u_aC, u_eK, u_eT, u_cLt, u_cLe, u_cGt, u_cGe, u_cEq, u_cNe, u_cAnd, u_cOr, u_cNot, u_zN, u_zS, u_zD, u_zL, u_zI, u_zB, u_zP, u_zF, u_zA, u_zU, u_zC, u_zR, u_zRZ, u_zRC, u_zRV, u_zT, u_zE, u_zK, u_zY, ho_nid, List.getD_cons_zero, List.getD_cons_succ, List.set_cons_zero, List.set_cons_succ, List.cons_append, List.nil_append, List.take_succ_cons, List.take_zero, Int.reduceToNat, Int.toNat_natCast, nN_0, nN_1, nN_2, nN_3, nN_4, nN_5, nN_6, nN_7, nN_8, nN_9, nN_10, nN_11, nN_12, nN_13, nN_14, nN_15, nN_16, nN_17, nN_18, nN_19, nN_20, nN_21, nN_22, nN_23, nN_24, nN_25, nN_26, nN_27, nN_28, nN_29, nN_30, nN_31, nN_32, nN_33, nN_34, nN_35, nN_36, nN_37, nN_38, nN_39, nN_40, nN_41, nN_42, nN_43, nN_44, nN_45, nN_46, nN_47, nN_48, nN_49, nN_50, nN_51, nN_52, nN_53, nN_54, nR_0_0, nR_0_1, nR_0_2, nR_0_3, nR_0_4, nR_0_5, nR_0_6, nR_0_7, nR_0_8, nR_0_9, nR_0_10, nR_1_0, nR_1_1, nR_1_2, nR_1_3, nR_1_4, nR_2_0, nR_2_1, nR_2_2, nR_2_3, nR_2_4, nR_3_0, nR_3_1, nR_4_2, nR_5_2, nR_6_0, nR_6_1, nR_6_2, nR_7_0, nR_30_2, nR_30_3, nR_30_4, nR_30_6, nR_30_7, nR_30_9, nR_30_10, nR_30_11, nR_30_12, nR_30_13, nR_30_14, nR_30_15, nR_30_16, nR_30_18, nR_30_19, nR_30_20, nR_30_21, nR_30_22, nR_30_23, nR_30_24, nR_30_28, nR_30_29, nR_30_31, true_or, or_true, true_and]
    exact fin
  · rw [MTX_at hT (show 0 < n by omega)]
    intro h1
    refine main 0 _ (bI_f (fun z => h1 z.2)).symm ?_
    simp only [u_eC, u_eV, u_eF, u_eR, u_eI, u_eL, u_eB, u_eD, u_eM, u_eU, u_aN, u_aC, u_eK, u_eT, u_cLt, u_cLe, u_cGt, u_cGe, u_cEq, u_cNe, u_cAnd, u_cOr, u_cNot, u_zN, u_zS, u_zD, u_zL, u_zI, u_zB, u_zP, u_zF, u_zA, u_zU, u_zC, u_zR, u_zRZ, u_zRC, u_zRV, u_zT, u_zE, u_zK, u_zY, ho_nid, List.getD_cons_zero, List.getD_cons_succ, List.set_cons_zero, List.set_cons_succ, List.cons_append, List.nil_append, List.take_succ_cons, List.take_zero, Int.reduceToNat, Int.toNat_natCast, nN_0, nN_1, nN_2, nN_3, nN_4, nN_5, nN_6, nN_7, nN_8, nN_9, nN_10, nN_11, nN_12, nN_13, nN_14, nN_15, nN_16, nN_17, nN_18, nN_19, nN_20, nN_21, nN_22, nN_23, nN_24, nN_25, nN_26, nN_27, nN_28, nN_29, nN_30, nN_31, nN_32, nN_33, nN_34, nN_35, nN_36, nN_37, nN_38, nN_39, nN_40, nN_41, nN_42, nN_43, nN_44, nN_45, nN_46, nN_47, nN_48, nN_49, nN_50, nN_51, nN_52, nN_53, nN_54, nR_0_0, nR_0_1, nR_0_2, nR_0_3, nR_0_4, nR_0_5, nR_0_6, nR_0_7, nR_0_8, nR_0_9, nR_0_10, nR_1_0, nR_1_1, nR_1_2, nR_1_3, nR_1_4, nR_2_0, nR_2_1, nR_2_2, nR_2_3, nR_2_4, nR_3_0, nR_3_1, nR_4_2, nR_5_2, nR_6_0, nR_6_1, nR_6_2, nR_7_0, nR_30_2, nR_30_3, nR_30_4, nR_30_6, nR_30_7, nR_30_9, nR_30_10, nR_30_11, nR_30_12, nR_30_13, nR_30_14, nR_30_15, nR_30_16, nR_30_18, nR_30_19, nR_30_20, nR_30_21, nR_30_22, nR_30_23, nR_30_24, nR_30_28, nR_30_29, nR_30_31, true_or, or_true, true_and]
    exact fin
  · refine main 0 _ (bI_f (fun z => by omega)).symm ?_
    simp only [u_eC, u_eV, u_eF, u_eR, u_eI, u_eL, u_eB, u_eD, u_eM, u_eU, u_aN, u_aC, u_eK, u_eT, u_cLt, u_cLe, u_cGt, u_cGe, u_cEq, u_cNe, u_cAnd, u_cOr, u_cNot, u_zN, u_zS, u_zD, u_zL, u_zI, u_zB, u_zP, u_zF, u_zA, u_zU, u_zC, u_zR, u_zRZ, u_zRC, u_zRV, u_zT, u_zE, u_zK, u_zY, ho_nid, List.getD_cons_zero, List.getD_cons_succ, List.set_cons_zero, List.set_cons_succ, List.cons_append, List.nil_append, List.take_succ_cons, List.take_zero, Int.reduceToNat, Int.toNat_natCast, nN_0, nN_1, nN_2, nN_3, nN_4, nN_5, nN_6, nN_7, nN_8, nN_9, nN_10, nN_11, nN_12, nN_13, nN_14, nN_15, nN_16, nN_17, nN_18, nN_19, nN_20, nN_21, nN_22, nN_23, nN_24, nN_25, nN_26, nN_27, nN_28, nN_29, nN_30, nN_31, nN_32, nN_33, nN_34, nN_35, nN_36, nN_37, nN_38, nN_39, nN_40, nN_41, nN_42, nN_43, nN_44, nN_45, nN_46, nN_47, nN_48, nN_49, nN_50, nN_51, nN_52, nN_53, nN_54, nR_0_0, nR_0_1, nR_0_2, nR_0_3, nR_0_4, nR_0_5, nR_0_6, nR_0_7, nR_0_8, nR_0_9, nR_0_10, nR_1_0, nR_1_1, nR_1_2, nR_1_3, nR_1_4, nR_2_0, nR_2_1, nR_2_2, nR_2_3, nR_2_4, nR_3_0, nR_3_1, nR_4_2, nR_5_2, nR_6_0, nR_6_1, nR_6_2, nR_7_0, nR_30_2, nR_30_3, nR_30_4, nR_30_6, nR_30_7, nR_30_9, nR_30_10, nR_30_11, nR_30_12, nR_30_13, nR_30_14, nR_30_15, nR_30_16, nR_30_18, nR_30_19, nR_30_20, nR_30_21, nR_30_22, nR_30_23, nR_30_24, nR_30_28, nR_30_29, nR_30_31, true_or, or_true, true_and]
    exact fin
theorem m3 {c : Nat} (hc : c < 1000) : ho_omul 3 (c : Int) = ((3 * c : Nat) : Int) := by rw [wmu (by omega) (by omega)]; simp
theorem sp_isStaleNow {c t n : Nat} {σ : ho_S} {Q : ho_K} {X : ho_X} (hc : c < 16) (ht : t < 3) (hn : σ 41 (3 * c + t) = (n : Int)) : mX7_isStaleNow [30, (c : Int), (t : Int)] σ Q X ↔ Q (bI (0 < t ∧ 0 < n ∧ σ 43 (3 * c + t) < σ 43 (3 * c))) σ := by
  simp only [mX7_isStaleNow, fX7_isStaleNow, u_eC, u_eV, u_eF, u_eR, u_eI, u_eL, u_eB, u_eD, u_eM, u_eU, u_aN, u_aC, u_eK, u_eT, u_cLt, u_cLe, u_cGt, u_cGe, u_cEq, u_cNe, u_cAnd, u_cOr, u_cNot, u_zN, u_zS, u_zD, u_zL, u_zI, u_zB, u_zP, u_zF, u_zA, u_zU, u_zC, u_zR, u_zRZ, u_zRC, u_zRV, u_zT, u_zE, u_zK, u_zY, ho_nid, List.getD_cons_zero, List.getD_cons_succ, List.set_cons_zero, List.set_cons_succ, List.cons_append, List.nil_append, List.take_succ_cons, List.take_zero, Int.reduceToNat, Int.toNat_natCast, nN_0, nN_1, nN_2, nN_3, nN_4, nN_5, nN_6, nN_7, nN_8, nN_9, nN_10, nN_11, nN_12, nN_13, nN_14, nN_15, nN_16, nN_17, nN_18, nN_19, nN_20, nN_21, nN_22, nN_23, nN_24, nN_25, nN_26, nN_27, nN_28, nN_29, nN_30, nN_31, nN_32, nN_33, nN_34, nN_35, nN_36, nN_37, nN_38, nN_39, nN_40, nN_41, nN_42, nN_43, nN_44, nN_45, nN_46, nN_47, nN_48, nN_49, nN_50, nN_51, nN_52, nN_53, nN_54, nR_0_0, nR_0_1, nR_0_2, nR_0_3, nR_0_4, nR_0_5, nR_0_6, nR_0_7, nR_0_8, nR_0_9, nR_0_10, nR_1_0, nR_1_1, nR_1_2, nR_1_3, nR_1_4, nR_2_0, nR_2_1, nR_2_2, nR_2_3, nR_2_4, nR_3_0, nR_3_1, nR_4_2, nR_5_2, nR_6_0, nR_6_1, nR_6_2, nR_7_0, nR_30_2, nR_30_3, nR_30_4, nR_30_6, nR_30_7, nR_30_9, nR_30_10, nR_30_11, nR_30_12, nR_30_13, nR_30_14, nR_30_15, nR_30_16, nR_30_18, nR_30_19, nR_30_20, nR_30_21, nR_30_22, nR_30_23, nR_30_24, nR_30_28, nR_30_29, nR_30_31, m3 (show c < 1000 by omega), oad (show 3 * c < 100000 by omega) (show t < 100000 by omega), n00, n01, true_or, or_true, true_and]
  simp only [mR_30_2, mR_30_3, mR_30_4, mR_30_6, mR_30_7, mR_30_9, mR_30_10, mR_30_11, mR_30_12, mR_30_13, mR_30_14, mR_30_15, mR_30_16, mR_30_18, mR_30_19, mR_30_20, mR_30_21, mR_30_22, mR_30_23, mR_30_24, mR_30_28, mR_30_29, mR_30_31, mR_0_9, mR_7_0, nN_25, nN_26, nN_27, nN_28, nN_29, nN_30, nN_31, nN_32, nN_33, nN_34, nN_35, nN_36, nN_37, nN_38, nN_39, nN_40, nN_41, nN_42, nN_43, nN_44, nN_45, nN_46, nN_47, nN_48, nN_49, nN_50, nN_51, nN_52, nN_53, nN_54, Int.toNat_natCast, hn]
  have r1 : 0 ≤ ((3 * c + t : Nat) : Int) ∧ ((3 * c + t : Nat) : Int) < 48 := by omega
  have r2 : 0 ≤ ((3 * c : Nat) : Int) ∧ ((3 * c : Nat) : Int) < 48 := by omega
  simp only [r1, r2, and_self, true_and]
  by_cases z : 0 < t
  · by_cases y : 0 < n
    · by_cases x : σ 43 (3 * c + t) < σ 43 (3 * c)
      · rw [bI_t ⟨z, y, x⟩]
        exact ⟨fun w => ((w.1 (by omega)).1 (by omega)).1 x, fun w => ⟨fun _ => ⟨fun _ => ⟨fun _ => w, fun q => absurd x (Int.not_lt.mpr q)⟩, fun q => absurd q (by omega)⟩, fun q => absurd q (by omega)⟩⟩
      · rw [bI_f (fun w => x w.2.2)]
        exact ⟨fun w => ((w.1 (by omega)).1 (by omega)).2 (Int.not_lt.mp x), fun w => ⟨fun _ => ⟨fun _ => ⟨fun q => absurd q x, fun _ => w⟩, fun q => absurd q (by omega)⟩, fun q => absurd q (by omega)⟩⟩
    · rw [bI_f (fun w => y w.2.1)]
      exact ⟨fun w => (w.1 (by omega)).2 (by omega), fun w => ⟨fun _ => ⟨fun q => absurd q (by omega), fun _ => w⟩, fun q => absurd q (by omega)⟩⟩
  · rw [bI_f (fun w => z w.1)]
    exact ⟨fun w => w.2 (by omega), fun w => ⟨fun q => absurd q (by omega), fun _ => w⟩⟩
theorem sp_brokenBy {T : Nat → Int} {n t c M N : Nat} {σ : ho_S} {Q : ho_K} {X : ho_X} (hc : c < M) (hM : σ 30 8 = (M : Int)) (hM1 : M ≤ 16) (ht : t < 3) (hT : MTX σ (3 * c + t) n T) (hF : ∀ i, i < N → 0 ≤ σ 34 i ∧ σ 34 i < 4800) (hN : N ≤ 4800) (hTM : TM (σ 37) (σ 38) M N) (hsp : 0 ≤ σ 30 26 ∧ σ 30 26 ≤ 50) (hW : 0 ≤ σ 30 25)
    (h : ∀ σ', sm pRo σ σ' → Q (RB (σ 37) (σ 38) (σ 36) (σ 34) (decide (0 < t ∧ 0 < n ∧ σ 43 (3 * c + t) < σ 43 (3 * c))) T n (σ 30 25) (σ 30 26) M c) σ') : mX7_brokenBy [30, (c : Int), (t : Int)] σ Q X := by
  have hn := hT.2.1
  have tc := hTM c hc
  have r1 : 0 ≤ ((3 * c + t : Nat) : Int) ∧ ((3 * c + t : Nat) : Int) < 48 := by omega
  have r2 : 0 ≤ (c : Int) ∧ (c : Int) < 16 := by omega
  have z1 : ((0 : Int) ≠ 0) = False := by simp
  have z2 : ((1 : Int) ≠ 0) = True := by simp
  have z3 : ((0 : Int) = 0) = True := by simp
  have z4 : ((1 : Int) = 0) = False := by simp
  unfold mX7_brokenBy fX7_brokenBy
  refine r_D ((3 * c + t : Nat) : Int) (fun K' hK' => ?_) ?_
  · simp only [u_eC, u_eV, u_eF, u_eR, u_eI, u_eL, u_eB, u_eD, u_eM, u_eU, u_aN, u_aC, u_eK, u_eT, u_cLt, u_cLe, u_cGt, u_cGe, u_cEq, u_cNe, u_cAnd, u_cOr, u_cNot, u_zN, u_zS, u_zD, u_zL, u_zI, u_zB, u_zP, u_zF, u_zA, u_zU, u_zC, u_zR, u_zRZ, u_zRC, u_zRV, u_zT, u_zE, u_zK, u_zY, ho_nid, List.getD_cons_zero, List.getD_cons_succ, List.set_cons_zero, List.set_cons_succ, List.cons_append, List.nil_append, List.take_succ_cons, List.take_zero, Int.reduceToNat, Int.toNat_natCast, nN_0, nN_1, nN_2, nN_3, nN_4, nN_5, nN_6, nN_7, nN_8, nN_9, nN_10, nN_11, nN_12, nN_13, nN_14, nN_15, nN_16, nN_17, nN_18, nN_19, nN_20, nN_21, nN_22, nN_23, nN_24, nN_25, nN_26, nN_27, nN_28, nN_29, nN_30, nN_31, nN_32, nN_33, nN_34, nN_35, nN_36, nN_37, nN_38, nN_39, nN_40, nN_41, nN_42, nN_43, nN_44, nN_45, nN_46, nN_47, nN_48, nN_49, nN_50, nN_51, nN_52, nN_53, nN_54, nR_0_0, nR_0_1, nR_0_2, nR_0_3, nR_0_4, nR_0_5, nR_0_6, nR_0_7, nR_0_8, nR_0_9, nR_0_10, nR_1_0, nR_1_1, nR_1_2, nR_1_3, nR_1_4, nR_2_0, nR_2_1, nR_2_2, nR_2_3, nR_2_4, nR_3_0, nR_3_1, nR_4_2, nR_5_2, nR_6_0, nR_6_1, nR_6_2, nR_7_0, nR_30_2, nR_30_3, nR_30_4, nR_30_6, nR_30_7, nR_30_9, nR_30_10, nR_30_11, nR_30_12, nR_30_13, nR_30_14, nR_30_15, nR_30_16, nR_30_18, nR_30_19, nR_30_20, nR_30_21, nR_30_22, nR_30_23, nR_30_24, nR_30_28, nR_30_29, nR_30_31, mIdx (show c < 16 by omega) ht]
    exact hK'
  refine r_D (if 0 < σ 38 c then 1 else 0) (fun K' hK' => ?_) ?_
  · simp only [u_eC, u_eV, u_eF, u_eR, u_eI, u_eL, u_eB, u_eD, u_eM, u_eU, u_aN, u_aC, u_eK, u_eT, u_cLt, u_cLe, u_cGt, u_cGe, u_cEq, u_cNe, u_cAnd, u_cOr, u_cNot, u_zN, u_zS, u_zD, u_zL, u_zI, u_zB, u_zP, u_zF, u_zA, u_zU, u_zC, u_zR, u_zRZ, u_zRC, u_zRV, u_zT, u_zE, u_zK, u_zY, ho_nid, List.getD_cons_zero, List.getD_cons_succ, List.set_cons_zero, List.set_cons_succ, List.cons_append, List.nil_append, List.take_succ_cons, List.take_zero, Int.reduceToNat, Int.toNat_natCast, nN_0, nN_1, nN_2, nN_3, nN_4, nN_5, nN_6, nN_7, nN_8, nN_9, nN_10, nN_11, nN_12, nN_13, nN_14, nN_15, nN_16, nN_17, nN_18, nN_19, nN_20, nN_21, nN_22, nN_23, nN_24, nN_25, nN_26, nN_27, nN_28, nN_29, nN_30, nN_31, nN_32, nN_33, nN_34, nN_35, nN_36, nN_37, nN_38, nN_39, nN_40, nN_41, nN_42, nN_43, nN_44, nN_45, nN_46, nN_47, nN_48, nN_49, nN_50, nN_51, nN_52, nN_53, nN_54, nR_0_0, nR_0_1, nR_0_2, nR_0_3, nR_0_4, nR_0_5, nR_0_6, nR_0_7, nR_0_8, nR_0_9, nR_0_10, nR_1_0, nR_1_1, nR_1_2, nR_1_3, nR_1_4, nR_2_0, nR_2_1, nR_2_2, nR_2_3, nR_2_4, nR_3_0, nR_3_1, nR_4_2, nR_5_2, nR_6_0, nR_6_1, nR_6_2, nR_7_0, nR_30_2, nR_30_3, nR_30_4, nR_30_6, nR_30_7, nR_30_9, nR_30_10, nR_30_11, nR_30_12, nR_30_13, nR_30_14, nR_30_15, nR_30_16, nR_30_18, nR_30_19, nR_30_20, nR_30_21, nR_30_22, nR_30_23, nR_30_24, nR_30_28, nR_30_29, nR_30_31]
    simp only [mR_30_2, mR_30_3, mR_30_4, mR_30_6, mR_30_7, mR_30_9, mR_30_10, mR_30_11, mR_30_12, mR_30_13, mR_30_14, mR_30_15, mR_30_16, mR_30_18, mR_30_19, mR_30_20, mR_30_21, mR_30_22, mR_30_23, mR_30_24, mR_30_28, mR_30_29, mR_30_31, mR_0_9, mR_7_0, nN_25, nN_26, nN_27, nN_28, nN_29, nN_30, nN_31, nN_32, nN_33, nN_34, nN_35, nN_36, nN_37, nN_38, nN_39, nN_40, nN_41, nN_42, nN_43, nN_44, nN_45, nN_46, nN_47, nN_48, nN_49, nN_50, nN_51, nN_52, nN_53, nN_54, Int.toNat_natCast, r2, and_self, true_and]
    refine ⟨fun z => ?_, fun z => ?_⟩
    · rw [if_pos (by omega)] at hK'; exact hK'
    · rw [if_neg (by omega)] at hK'; exact hK'
  refine r_D (bv (decide (n = 0)) 1) (fun K' hK' => ?_) ?_
  · simp only [u_eC, u_eV, u_eF, u_eR, u_eI, u_eL, u_eB, u_eD, u_eM, u_eU, u_aN, u_aC, u_eK, u_eT, u_cLt, u_cLe, u_cGt, u_cGe, u_cEq, u_cNe, u_cAnd, u_cOr, u_cNot, u_zN, u_zS, u_zD, u_zL, u_zI, u_zB, u_zP, u_zF, u_zA, u_zU, u_zC, u_zR, u_zRZ, u_zRC, u_zRV, u_zT, u_zE, u_zK, u_zY, ho_nid, List.getD_cons_zero, List.getD_cons_succ, List.set_cons_zero, List.set_cons_succ, List.cons_append, List.nil_append, List.take_succ_cons, List.take_zero, Int.reduceToNat, Int.toNat_natCast, nN_0, nN_1, nN_2, nN_3, nN_4, nN_5, nN_6, nN_7, nN_8, nN_9, nN_10, nN_11, nN_12, nN_13, nN_14, nN_15, nN_16, nN_17, nN_18, nN_19, nN_20, nN_21, nN_22, nN_23, nN_24, nN_25, nN_26, nN_27, nN_28, nN_29, nN_30, nN_31, nN_32, nN_33, nN_34, nN_35, nN_36, nN_37, nN_38, nN_39, nN_40, nN_41, nN_42, nN_43, nN_44, nN_45, nN_46, nN_47, nN_48, nN_49, nN_50, nN_51, nN_52, nN_53, nN_54, nR_0_0, nR_0_1, nR_0_2, nR_0_3, nR_0_4, nR_0_5, nR_0_6, nR_0_7, nR_0_8, nR_0_9, nR_0_10, nR_1_0, nR_1_1, nR_1_2, nR_1_3, nR_1_4, nR_2_0, nR_2_1, nR_2_2, nR_2_3, nR_2_4, nR_3_0, nR_3_1, nR_4_2, nR_5_2, nR_6_0, nR_6_1, nR_6_2, nR_7_0, nR_30_2, nR_30_3, nR_30_4, nR_30_6, nR_30_7, nR_30_9, nR_30_10, nR_30_11, nR_30_12, nR_30_13, nR_30_14, nR_30_15, nR_30_16, nR_30_18, nR_30_19, nR_30_20, nR_30_21, nR_30_22, nR_30_23, nR_30_24, nR_30_28, nR_30_29, nR_30_31]
    simp only [mR_30_2, mR_30_3, mR_30_4, mR_30_6, mR_30_7, mR_30_9, mR_30_10, mR_30_11, mR_30_12, mR_30_13, mR_30_14, mR_30_15, mR_30_16, mR_30_18, mR_30_19, mR_30_20, mR_30_21, mR_30_22, mR_30_23, mR_30_24, mR_30_28, mR_30_29, mR_30_31, mR_0_9, mR_7_0, nN_25, nN_26, nN_27, nN_28, nN_29, nN_30, nN_31, nN_32, nN_33, nN_34, nN_35, nN_36, nN_37, nN_38, nN_39, nN_40, nN_41, nN_42, nN_43, nN_44, nN_45, nN_46, nN_47, nN_48, nN_49, nN_50, nN_51, nN_52, nN_53, nN_54, Int.toNat_natCast, r1, and_self, true_and, hT.1]
    exact ⟨fun z => bvT hK' (decide_eq_true (by omega)), fun z => bvF hK' (decide_eq_false (by omega))⟩
  refine r_orS (bv (decide (2 < (rws T (σ 30 25) n).length) || decide (σ 30 25 < wid T (rws T (σ 30 25) n))) 2) (fun σ' => sm pRo σ σ') (fun K' hK' => ?_) (fun σ1 s1 => ?_)
  · simp only [u_eC, u_eV, u_eF, u_eR, u_eI, u_eL, u_eB, u_eD, u_eM, u_eU, u_aN, u_aC, u_eK, u_eT, u_cLt, u_cLe, u_cGt, u_cGe, u_cEq, u_cNe, u_cAnd, u_cOr, u_cNot, u_zN, u_zS, u_zD, u_zL, u_zI, u_zB, u_zP, u_zF, u_zA, u_zU, u_zC, u_zR, u_zRZ, u_zRC, u_zRV, u_zT, u_zE, u_zK, u_zY, ho_nid, List.getD_cons_zero, List.getD_cons_succ, List.set_cons_zero, List.set_cons_succ, List.cons_append, List.nil_append, List.take_succ_cons, List.take_zero, Int.reduceToNat, Int.toNat_natCast, nN_0, nN_1, nN_2, nN_3, nN_4, nN_5, nN_6, nN_7, nN_8, nN_9, nN_10, nN_11, nN_12, nN_13, nN_14, nN_15, nN_16, nN_17, nN_18, nN_19, nN_20, nN_21, nN_22, nN_23, nN_24, nN_25, nN_26, nN_27, nN_28, nN_29, nN_30, nN_31, nN_32, nN_33, nN_34, nN_35, nN_36, nN_37, nN_38, nN_39, nN_40, nN_41, nN_42, nN_43, nN_44, nN_45, nN_46, nN_47, nN_48, nN_49, nN_50, nN_51, nN_52, nN_53, nN_54, nR_0_0, nR_0_1, nR_0_2, nR_0_3, nR_0_4, nR_0_5, nR_0_6, nR_0_7, nR_0_8, nR_0_9, nR_0_10, nR_1_0, nR_1_1, nR_1_2, nR_1_3, nR_1_4, nR_2_0, nR_2_1, nR_2_2, nR_2_3, nR_2_4, nR_3_0, nR_3_1, nR_4_2, nR_5_2, nR_6_0, nR_6_1, nR_6_2, nR_7_0, nR_30_2, nR_30_3, nR_30_4, nR_30_6, nR_30_7, nR_30_9, nR_30_10, nR_30_11, nR_30_12, nR_30_13, nR_30_14, nR_30_15, nR_30_16, nR_30_18, nR_30_19, nR_30_20, nR_30_21, nR_30_22, nR_30_23, nR_30_24, nR_30_28, nR_30_29, nR_30_31]
    refine sp_isWide (by omega) hT hW (fun σ' s' => ?_)
    have h9 := hK' σ' s'
    simp only [bI_ne, bI_eq]
    refine ⟨fun z => bvT h9 ?_, fun z => bvF h9 ?_⟩
    · rcases z with z | z
      · rw [decide_eq_true z]; rfl
      · rw [decide_eq_true z]; simp
    · rw [decide_eq_false (fun y => z (Or.inl y)), decide_eq_false (fun y => z (Or.inr y))]; rfl
  have hT1 := MTX_sm hT s1 (fun _ => rfl) (fun _ => rfl)
  have e37 : σ1 37 = σ 37 := sm_fn s1 37 (fun _ => rfl)
  have e38 : σ1 38 = σ 38 := sm_fn s1 38 (fun _ => rfl)
  have e36 : σ1 36 = σ 36 := sm_fn s1 36 (fun _ => rfl)
  have e34 : σ1 34 = σ 34 := sm_fn s1 34 (fun _ => rfl)
  have e43 : σ1 43 = σ 43 := sm_fn s1 43 (fun _ => rfl)
  have e26 : σ1 30 26 = σ 30 26 := s1 30 26 rfl
  have e8 : σ1 30 8 = (M : Int) := (s1 30 8 rfl).trans hM
  refine r_or (bv (decide (0 < σ 38 c) && decide (σ 30 26 * σ 38 c < 25 * pre T n)) 4) (fun K' hK' => ?_) ?_
  · simp only [u_eC, u_eV, u_eF, u_eR, u_eI, u_eL, u_eB, u_eD, u_eM, u_eU, u_aN, u_aC, u_eK, u_eT, u_cLt, u_cLe, u_cGt, u_cGe, u_cEq, u_cNe, u_cAnd, u_cOr, u_cNot, u_zN, u_zS, u_zD, u_zL, u_zI, u_zB, u_zP, u_zF, u_zA, u_zU, u_zC, u_zR, u_zRZ, u_zRC, u_zRV, u_zT, u_zE, u_zK, u_zY, ho_nid, List.getD_cons_zero, List.getD_cons_succ, List.set_cons_zero, List.set_cons_succ, List.cons_append, List.nil_append, List.take_succ_cons, List.take_zero, Int.reduceToNat, Int.toNat_natCast, nN_0, nN_1, nN_2, nN_3, nN_4, nN_5, nN_6, nN_7, nN_8, nN_9, nN_10, nN_11, nN_12, nN_13, nN_14, nN_15, nN_16, nN_17, nN_18, nN_19, nN_20, nN_21, nN_22, nN_23, nN_24, nN_25, nN_26, nN_27, nN_28, nN_29, nN_30, nN_31, nN_32, nN_33, nN_34, nN_35, nN_36, nN_37, nN_38, nN_39, nN_40, nN_41, nN_42, nN_43, nN_44, nN_45, nN_46, nN_47, nN_48, nN_49, nN_50, nN_51, nN_52, nN_53, nN_54, nR_0_0, nR_0_1, nR_0_2, nR_0_3, nR_0_4, nR_0_5, nR_0_6, nR_0_7, nR_0_8, nR_0_9, nR_0_10, nR_1_0, nR_1_1, nR_1_2, nR_1_3, nR_1_4, nR_2_0, nR_2_1, nR_2_2, nR_2_3, nR_2_4, nR_3_0, nR_3_1, nR_4_2, nR_5_2, nR_6_0, nR_6_1, nR_6_2, nR_7_0, nR_30_2, nR_30_3, nR_30_4, nR_30_6, nR_30_7, nR_30_9, nR_30_10, nR_30_11, nR_30_12, nR_30_13, nR_30_14, nR_30_15, nR_30_16, nR_30_18, nR_30_19, nR_30_20, nR_30_21, nR_30_22, nR_30_23, nR_30_24, nR_30_28, nR_30_29, nR_30_31, ite01, ite01e]
    refine ⟨fun z => ?_, fun z => bvF hK' (by rw [decide_eq_false z]; rfl)⟩
    simp only [mR_30_2, mR_30_3, mR_30_4, mR_30_6, mR_30_7, mR_30_9, mR_30_10, mR_30_11, mR_30_12, mR_30_13, mR_30_14, mR_30_15, mR_30_16, mR_30_18, mR_30_19, mR_30_20, mR_30_21, mR_30_22, mR_30_23, mR_30_24, mR_30_28, mR_30_29, mR_30_31, mR_0_9, mR_7_0, nN_25, nN_26, nN_27, nN_28, nN_29, nN_30, nN_31, nN_32, nN_33, nN_34, nN_35, nN_36, nN_37, nN_38, nN_39, nN_40, nN_41, nN_42, nN_43, nN_44, nN_45, nN_46, nN_47, nN_48, nN_49, nN_50, nN_51, nN_52, nN_53, nN_54, Int.toNat_natCast, r1, r2, and_self, true_and, hT1.1]
    refine sp_widthFromT (a := 0) (by omega) hT1 (by omega) (Nat.le_refl _) ?_
    rw [e38, e26]
    have p9 := pre_range T n
    have p0 : pre T 0 = 0 := rfl
    have m1 : 0 ≤ σ 30 26 * σ 38 c := Int.mul_nonneg hsp.1 tc.1
    have m2 : σ 30 26 * σ 38 c ≤ 50 * 4800 := Int.mul_le_mul hsp.2 (by omega) tc.1 (by omega)
    rw [p0, Int.sub_zero, wmu (by omega) (by omega), wmu (by omega) (by omega)]
    exact ⟨fun y => bvT hK' (by rw [decide_eq_true z, decide_eq_true y]; rfl), fun y => bvF hK' (by rw [decide_eq_false (Int.not_lt.mpr y)]; simp)⟩
  refine r_or (bv (decide (0 < σ 38 c) && anyb (hangP (σ 34) (σ 37 c).toNat (σ 38 c).toNat) ((σ 38 c).toNat - 1)) 8) (fun K' hK' => ?_) ?_
  · simp only [u_eC, u_eV, u_eF, u_eR, u_eI, u_eL, u_eB, u_eD, u_eM, u_eU, u_aN, u_aC, u_eK, u_eT, u_cLt, u_cLe, u_cGt, u_cGe, u_cEq, u_cNe, u_cAnd, u_cOr, u_cNot, u_zN, u_zS, u_zD, u_zL, u_zI, u_zB, u_zP, u_zF, u_zA, u_zU, u_zC, u_zR, u_zRZ, u_zRC, u_zRV, u_zT, u_zE, u_zK, u_zY, ho_nid, List.getD_cons_zero, List.getD_cons_succ, List.set_cons_zero, List.set_cons_succ, List.cons_append, List.nil_append, List.take_succ_cons, List.take_zero, Int.reduceToNat, Int.toNat_natCast, nN_0, nN_1, nN_2, nN_3, nN_4, nN_5, nN_6, nN_7, nN_8, nN_9, nN_10, nN_11, nN_12, nN_13, nN_14, nN_15, nN_16, nN_17, nN_18, nN_19, nN_20, nN_21, nN_22, nN_23, nN_24, nN_25, nN_26, nN_27, nN_28, nN_29, nN_30, nN_31, nN_32, nN_33, nN_34, nN_35, nN_36, nN_37, nN_38, nN_39, nN_40, nN_41, nN_42, nN_43, nN_44, nN_45, nN_46, nN_47, nN_48, nN_49, nN_50, nN_51, nN_52, nN_53, nN_54, nR_0_0, nR_0_1, nR_0_2, nR_0_3, nR_0_4, nR_0_5, nR_0_6, nR_0_7, nR_0_8, nR_0_9, nR_0_10, nR_1_0, nR_1_1, nR_1_2, nR_1_3, nR_1_4, nR_2_0, nR_2_1, nR_2_2, nR_2_3, nR_2_4, nR_3_0, nR_3_1, nR_4_2, nR_5_2, nR_6_0, nR_6_1, nR_6_2, nR_7_0, nR_30_2, nR_30_3, nR_30_4, nR_30_6, nR_30_7, nR_30_9, nR_30_10, nR_30_11, nR_30_12, nR_30_13, nR_30_14, nR_30_15, nR_30_16, nR_30_18, nR_30_19, nR_30_20, nR_30_21, nR_30_22, nR_30_23, nR_30_24, nR_30_28, nR_30_29, nR_30_31, ite01, ite01e]
    refine ⟨fun z => ?_, fun z => bvF hK' (by rw [decide_eq_false z]; rfl)⟩
    refine sp_mhangs (N := N) (s := (σ 37 c).toNat) (l := (σ 38 c).toNat) (by omega) (by rw [e34]; exact hF) hN (by rw [e37]; omega) (by rw [e38]; omega) (by omega) ?_
    rw [e34]
    simp only [bI_ne, bI_eq]
    exact ⟨fun y => bvT hK' (by rw [decide_eq_true z, y]; rfl), fun y => bvF hK' (by rw [Bool.not_eq_true] at y; rw [y]; simp)⟩
  refine r_or (bv (decide (0 < σ 38 c) && anyb (closeP (σ 37) (σ 38) (σ 36) c) M) 16) (fun K' hK' => ?_) ?_
  · simp only [u_eC, u_eV, u_eF, u_eR, u_eI, u_eL, u_eB, u_eD, u_eM, u_eU, u_aN, u_aC, u_eK, u_eT, u_cLt, u_cLe, u_cGt, u_cGe, u_cEq, u_cNe, u_cAnd, u_cOr, u_cNot, u_zN, u_zS, u_zD, u_zL, u_zI, u_zB, u_zP, u_zF, u_zA, u_zU, u_zC, u_zR, u_zRZ, u_zRC, u_zRV, u_zT, u_zE, u_zK, u_zY, ho_nid, List.getD_cons_zero, List.getD_cons_succ, List.set_cons_zero, List.set_cons_succ, List.cons_append, List.nil_append, List.take_succ_cons, List.take_zero, Int.reduceToNat, Int.toNat_natCast, nN_0, nN_1, nN_2, nN_3, nN_4, nN_5, nN_6, nN_7, nN_8, nN_9, nN_10, nN_11, nN_12, nN_13, nN_14, nN_15, nN_16, nN_17, nN_18, nN_19, nN_20, nN_21, nN_22, nN_23, nN_24, nN_25, nN_26, nN_27, nN_28, nN_29, nN_30, nN_31, nN_32, nN_33, nN_34, nN_35, nN_36, nN_37, nN_38, nN_39, nN_40, nN_41, nN_42, nN_43, nN_44, nN_45, nN_46, nN_47, nN_48, nN_49, nN_50, nN_51, nN_52, nN_53, nN_54, nR_0_0, nR_0_1, nR_0_2, nR_0_3, nR_0_4, nR_0_5, nR_0_6, nR_0_7, nR_0_8, nR_0_9, nR_0_10, nR_1_0, nR_1_1, nR_1_2, nR_1_3, nR_1_4, nR_2_0, nR_2_1, nR_2_2, nR_2_3, nR_2_4, nR_3_0, nR_3_1, nR_4_2, nR_5_2, nR_6_0, nR_6_1, nR_6_2, nR_7_0, nR_30_2, nR_30_3, nR_30_4, nR_30_6, nR_30_7, nR_30_9, nR_30_10, nR_30_11, nR_30_12, nR_30_13, nR_30_14, nR_30_15, nR_30_16, nR_30_18, nR_30_19, nR_30_20, nR_30_21, nR_30_22, nR_30_23, nR_30_24, nR_30_28, nR_30_29, nR_30_31, ite01, ite01e]
    refine ⟨fun z => ?_, fun z => bvF hK' (by rw [decide_eq_false z]; rfl)⟩
    refine sp_misClose (N := N) hc e8 hM1 hN (by rw [e37, e38]; exact hTM) ?_
    rw [e37, e38, e36]
    simp only [bI_ne, bI_eq]
    exact ⟨fun y => bvT hK' (by rw [decide_eq_true z, y]; rfl), fun y => bvF hK' (by rw [Bool.not_eq_true] at y; rw [y]; simp)⟩
  refine r_or (bv (decide (0 < t ∧ 0 < n ∧ σ 43 (3 * c + t) < σ 43 (3 * c))) 32) (fun K' hK' => ?_) ?_
  · simp only [u_eC, u_eV, u_eF, u_eR, u_eI, u_eL, u_eB, u_eD, u_eM, u_eU, u_aN, u_aC, u_eK, u_eT, u_cLt, u_cLe, u_cGt, u_cGe, u_cEq, u_cNe, u_cAnd, u_cOr, u_cNot, u_zN, u_zS, u_zD, u_zL, u_zI, u_zB, u_zP, u_zF, u_zA, u_zU, u_zC, u_zR, u_zRZ, u_zRC, u_zRV, u_zT, u_zE, u_zK, u_zY, ho_nid, List.getD_cons_zero, List.getD_cons_succ, List.set_cons_zero, List.set_cons_succ, List.cons_append, List.nil_append, List.take_succ_cons, List.take_zero, Int.reduceToNat, Int.toNat_natCast, nN_0, nN_1, nN_2, nN_3, nN_4, nN_5, nN_6, nN_7, nN_8, nN_9, nN_10, nN_11, nN_12, nN_13, nN_14, nN_15, nN_16, nN_17, nN_18, nN_19, nN_20, nN_21, nN_22, nN_23, nN_24, nN_25, nN_26, nN_27, nN_28, nN_29, nN_30, nN_31, nN_32, nN_33, nN_34, nN_35, nN_36, nN_37, nN_38, nN_39, nN_40, nN_41, nN_42, nN_43, nN_44, nN_45, nN_46, nN_47, nN_48, nN_49, nN_50, nN_51, nN_52, nN_53, nN_54, nR_0_0, nR_0_1, nR_0_2, nR_0_3, nR_0_4, nR_0_5, nR_0_6, nR_0_7, nR_0_8, nR_0_9, nR_0_10, nR_1_0, nR_1_1, nR_1_2, nR_1_3, nR_1_4, nR_2_0, nR_2_1, nR_2_2, nR_2_3, nR_2_4, nR_3_0, nR_3_1, nR_4_2, nR_5_2, nR_6_0, nR_6_1, nR_6_2, nR_7_0, nR_30_2, nR_30_3, nR_30_4, nR_30_6, nR_30_7, nR_30_9, nR_30_10, nR_30_11, nR_30_12, nR_30_13, nR_30_14, nR_30_15, nR_30_16, nR_30_18, nR_30_19, nR_30_20, nR_30_21, nR_30_22, nR_30_23, nR_30_24, nR_30_28, nR_30_29, nR_30_31, sp_isStaleNow (show c < 16 by omega) ht hT1.1, bI_ne, bI_eq, e43]
    exact ⟨fun z => bvT hK' (decide_eq_true z), fun z => bvF hK' (decide_eq_false z)⟩
  refine r_or (bv (!decide (0 < σ 38 c)) 64) (fun K' hK' => ?_) ?_
  · simp only [u_eC, u_eV, u_eF, u_eR, u_eI, u_eL, u_eB, u_eD, u_eM, u_eU, u_aN, u_aC, u_eK, u_eT, u_cLt, u_cLe, u_cGt, u_cGe, u_cEq, u_cNe, u_cAnd, u_cOr, u_cNot, u_zN, u_zS, u_zD, u_zL, u_zI, u_zB, u_zP, u_zF, u_zA, u_zU, u_zC, u_zR, u_zRZ, u_zRC, u_zRV, u_zT, u_zE, u_zK, u_zY, ho_nid, List.getD_cons_zero, List.getD_cons_succ, List.set_cons_zero, List.set_cons_succ, List.cons_append, List.nil_append, List.take_succ_cons, List.take_zero, Int.reduceToNat, Int.toNat_natCast, nN_0, nN_1, nN_2, nN_3, nN_4, nN_5, nN_6, nN_7, nN_8, nN_9, nN_10, nN_11, nN_12, nN_13, nN_14, nN_15, nN_16, nN_17, nN_18, nN_19, nN_20, nN_21, nN_22, nN_23, nN_24, nN_25, nN_26, nN_27, nN_28, nN_29, nN_30, nN_31, nN_32, nN_33, nN_34, nN_35, nN_36, nN_37, nN_38, nN_39, nN_40, nN_41, nN_42, nN_43, nN_44, nN_45, nN_46, nN_47, nN_48, nN_49, nN_50, nN_51, nN_52, nN_53, nN_54, nR_0_0, nR_0_1, nR_0_2, nR_0_3, nR_0_4, nR_0_5, nR_0_6, nR_0_7, nR_0_8, nR_0_9, nR_0_10, nR_1_0, nR_1_1, nR_1_2, nR_1_3, nR_1_4, nR_2_0, nR_2_1, nR_2_2, nR_2_3, nR_2_4, nR_3_0, nR_3_1, nR_4_2, nR_5_2, nR_6_0, nR_6_1, nR_6_2, nR_7_0, nR_30_2, nR_30_3, nR_30_4, nR_30_6, nR_30_7, nR_30_9, nR_30_10, nR_30_11, nR_30_12, nR_30_13, nR_30_14, nR_30_15, nR_30_16, nR_30_18, nR_30_19, nR_30_20, nR_30_21, nR_30_22, nR_30_23, nR_30_24, nR_30_28, nR_30_29, nR_30_31, ite01, ite01e]
    exact ⟨fun z => bvF hK' (by rw [decide_eq_true z]; rfl), fun z => bvT hK' (by rw [decide_eq_false z]; rfl)⟩
  refine r_or (bv (decide (σ 36 c = 1) && (decide (0 < n) && !voB T n)) 128) (fun K' hK' => ?_) ?_
  · simp only [u_eC, u_eV, u_eF, u_eR, u_eI, u_eL, u_eB, u_eD, u_eM, u_eU, u_aN, u_aC, u_eK, u_eT, u_cLt, u_cLe, u_cGt, u_cGe, u_cEq, u_cNe, u_cAnd, u_cOr, u_cNot, u_zN, u_zS, u_zD, u_zL, u_zI, u_zB, u_zP, u_zF, u_zA, u_zU, u_zC, u_zR, u_zRZ, u_zRC, u_zRV, u_zT, u_zE, u_zK, u_zY, ho_nid, List.getD_cons_zero, List.getD_cons_succ, List.set_cons_zero, List.set_cons_succ, List.cons_append, List.nil_append, List.take_succ_cons, List.take_zero, Int.reduceToNat, Int.toNat_natCast, nN_0, nN_1, nN_2, nN_3, nN_4, nN_5, nN_6, nN_7, nN_8, nN_9, nN_10, nN_11, nN_12, nN_13, nN_14, nN_15, nN_16, nN_17, nN_18, nN_19, nN_20, nN_21, nN_22, nN_23, nN_24, nN_25, nN_26, nN_27, nN_28, nN_29, nN_30, nN_31, nN_32, nN_33, nN_34, nN_35, nN_36, nN_37, nN_38, nN_39, nN_40, nN_41, nN_42, nN_43, nN_44, nN_45, nN_46, nN_47, nN_48, nN_49, nN_50, nN_51, nN_52, nN_53, nN_54, nR_0_0, nR_0_1, nR_0_2, nR_0_3, nR_0_4, nR_0_5, nR_0_6, nR_0_7, nR_0_8, nR_0_9, nR_0_10, nR_1_0, nR_1_1, nR_1_2, nR_1_3, nR_1_4, nR_2_0, nR_2_1, nR_2_2, nR_2_3, nR_2_4, nR_3_0, nR_3_1, nR_4_2, nR_5_2, nR_6_0, nR_6_1, nR_6_2, nR_7_0, nR_30_2, nR_30_3, nR_30_4, nR_30_6, nR_30_7, nR_30_9, nR_30_10, nR_30_11, nR_30_12, nR_30_13, nR_30_14, nR_30_15, nR_30_16, nR_30_18, nR_30_19, nR_30_20, nR_30_21, nR_30_22, nR_30_23, nR_30_24, nR_30_28, nR_30_29, nR_30_31]
    simp only [mR_30_2, mR_30_3, mR_30_4, mR_30_6, mR_30_7, mR_30_9, mR_30_10, mR_30_11, mR_30_12, mR_30_13, mR_30_14, mR_30_15, mR_30_16, mR_30_18, mR_30_19, mR_30_20, mR_30_21, mR_30_22, mR_30_23, mR_30_24, mR_30_28, mR_30_29, mR_30_31, mR_0_9, mR_7_0, nN_25, nN_26, nN_27, nN_28, nN_29, nN_30, nN_31, nN_32, nN_33, nN_34, nN_35, nN_36, nN_37, nN_38, nN_39, nN_40, nN_41, nN_42, nN_43, nN_44, nN_45, nN_46, nN_47, nN_48, nN_49, nN_50, nN_51, nN_52, nN_53, nN_54, Int.toNat_natCast, r1, r2, and_self, true_and, hT1.1, e36]
    refine ⟨fun z => ⟨fun y => ?_, fun y => bvF hK' (by rw [decide_eq_false (show ¬ 0 < n by omega)]; simp)⟩, fun z => bvF hK' (by rw [decide_eq_false z]; rfl)⟩
    refine sp_areVoices (by omega) hT1 (fun h0 => ?_) (fun h0 => by omega)
    simp only [bI_ne, bI_eq]
    exact ⟨fun w => bvF hK' (by rw [w]; simp), fun w => bvT hK' (by rw [Bool.not_eq_true] at w; rw [w, decide_eq_true z, decide_eq_true h0]; rfl)⟩
  have fin := h σ1 s1
  unfold RB BS at fin
  simp only [u_eC, u_eV, u_eF, u_eR, u_eI, u_eL, u_eB, u_eD, u_eM, u_eU, u_aN, u_aC, u_eK, u_eT, u_cLt, u_cLe, u_cGt, u_cGe, u_cEq, u_cNe, u_cAnd, u_cOr, u_cNot, u_zN, u_zS, u_zD, u_zL, u_zI, u_zB, u_zP, u_zF, u_zA, u_zU, u_zC, u_zR, u_zRZ, u_zRC, u_zRV, u_zT, u_zE, u_zK, u_zY, ho_nid, List.getD_cons_zero, List.getD_cons_succ, List.set_cons_zero, List.set_cons_succ, List.cons_append, List.nil_append, List.take_succ_cons, List.take_zero, Int.reduceToNat, Int.toNat_natCast]
  exact fin
