-- the model's rows
def MR (σ : ho_S) (l : List (Nat × Nat)) : Prop := σ 30 27 = (l.length : Int) ∧ RW (σ 51) (σ 52) l
theorem sp_isMark {s : Int} {σ : ho_S} {Q : ho_K} {X : ho_X} : mX7_isMark [s] σ Q X ↔ Q (if stp s then 1 else 0) σ := by
  simp only [mX7_isMark, fX7_isMark, u_eC, u_eV, u_eF, u_eR, u_eI, u_eL, u_eB, u_eD, u_eM, u_eU, u_aN, u_aC, u_eK, u_eT, u_cLt, u_cLe, u_cGt, u_cGe, u_cEq, u_cNe, u_cAnd, u_cOr, u_cNot, u_zN, u_zS, u_zD, u_zL, u_zI, u_zB, u_zP, u_zF, u_zA, u_zU, u_zC, u_zR, u_zRZ, u_zRC, u_zRV, u_zT, u_zE, u_zK, u_zY, ho_nid, List.getD_cons_zero, List.getD_cons_succ, List.set_cons_zero, List.set_cons_succ, List.cons_append, List.nil_append, List.take_succ_cons, List.take_zero, Int.reduceToNat, Int.toNat_natCast, nN_0, nN_1, nN_2, nN_3, nN_4, nN_5, nN_6, nN_7, nN_8, nN_9, nN_10, nN_11, nN_12, nN_13, nN_14, nN_15, nN_16, nN_17, nN_18, nN_19, nN_20, nN_21, nN_22, nN_23, nN_24, nN_25, nN_26, nN_27, nN_28, nN_29, nN_30, nN_31, nN_32, nN_33, nN_34, nN_35, nN_36, nN_37, nN_38, nN_39, nN_40, nN_41, nN_42, nN_43, nN_44, nN_45, nN_46, nN_47, nN_48, nN_49, nN_50, nN_51, nN_52, nN_53, nN_54, nR_0_0, nR_0_1, nR_0_2, nR_0_3, nR_0_4, nR_0_5, nR_0_6, nR_0_7, nR_0_8, nR_0_9, nR_0_10, nR_1_0, nR_1_1, nR_1_2, nR_1_3, nR_1_4, nR_2_0, nR_2_1, nR_2_2, nR_2_3, nR_2_4, nR_3_0, nR_3_1, nR_4_2, nR_5_2, nR_6_0, nR_6_1, nR_6_2, nR_7_0, nR_30_2, nR_30_3, nR_30_4, nR_30_6, nR_30_7, nR_30_9, nR_30_10, nR_30_11, nR_30_12, nR_30_13, nR_30_14, nR_30_15, nR_30_16, nR_30_18, nR_30_19, nR_30_20, nR_30_21, nR_30_22, nR_30_23, nR_30_24, nR_30_28, nR_30_29, nR_30_31]
  unfold stp
  grind
theorem sp_addsRow {a b : Nat} {l : List (Nat × Nat)} {σ : ho_S} {Q : ho_K} {X : ho_X} (hl : l.length < 64) (hL : MR σ l) (h : ∀ σ', sm pRo σ σ' → MR σ' (l ++ [(a, b)]) → Q 0 σ') : mX7_addsRow [30, (a : Int), (b : Int)] σ Q X := by
  obtain ⟨h1, h2⟩ := hL
  simp only [mX7_addsRow, fX7_addsRow, u_eC, u_eV, u_eF, u_eR, u_eI, u_eL, u_eB, u_eD, u_eM, u_eU, u_aN, u_aC, u_eK, u_eT, u_cLt, u_cLe, u_cGt, u_cGe, u_cEq, u_cNe, u_cAnd, u_cOr, u_cNot, u_zN, u_zS, u_zD, u_zL, u_zI, u_zB, u_zP, u_zF, u_zA, u_zU, u_zC, u_zR, u_zRZ, u_zRC, u_zRV, u_zT, u_zE, u_zK, u_zY, ho_nid, List.getD_cons_zero, List.getD_cons_succ, List.set_cons_zero, List.set_cons_succ, List.cons_append, List.nil_append, List.take_succ_cons, List.take_zero, Int.reduceToNat, Int.toNat_natCast, nN_0, nN_1, nN_2, nN_3, nN_4, nN_5, nN_6, nN_7, nN_8, nN_9, nN_10, nN_11, nN_12, nN_13, nN_14, nN_15, nN_16, nN_17, nN_18, nN_19, nN_20, nN_21, nN_22, nN_23, nN_24, nN_25, nN_26, nN_27, nN_28, nN_29, nN_30, nN_31, nN_32, nN_33, nN_34, nN_35, nN_36, nN_37, nN_38, nN_39, nN_40, nN_41, nN_42, nN_43, nN_44, nN_45, nN_46, nN_47, nN_48, nN_49, nN_50, nN_51, nN_52, nN_53, nN_54, nR_0_0, nR_0_1, nR_0_2, nR_0_3, nR_0_4, nR_0_5, nR_0_6, nR_0_7, nR_0_8, nR_0_9, nR_0_10, nR_1_0, nR_1_1, nR_1_2, nR_1_3, nR_1_4, nR_2_0, nR_2_1, nR_2_2, nR_2_3, nR_2_4, nR_3_0, nR_3_1, nR_4_2, nR_5_2, nR_6_0, nR_6_1, nR_6_2, nR_7_0, nR_30_2, nR_30_3, nR_30_4, nR_30_6, nR_30_7, nR_30_9, nR_30_10, nR_30_11, nR_30_12, nR_30_13, nR_30_14, nR_30_15, nR_30_16, nR_30_18, nR_30_19, nR_30_20, nR_30_21, nR_30_22, nR_30_23, nR_30_24, nR_30_28, nR_30_29, nR_30_31]
  simp only [mR_30_2, mR_30_3, mR_30_4, mR_30_6, mR_30_7, mR_30_9, mR_30_10, mR_30_11, mR_30_12, mR_30_13, mR_30_14, mR_30_15, mR_30_16, mR_30_18, mR_30_19, mR_30_20, mR_30_21, mR_30_22, mR_30_23, mR_30_24, mR_30_28, mR_30_29, mR_30_31, mR_0_9, mR_7_0, nN_25, nN_26, nN_27, nN_28, nN_29, nN_30, nN_31, nN_32, nN_33, nN_34, nN_35, nN_36, nN_37, nN_38, nN_39, nN_40, nN_41, nN_42, nN_43, nN_44, nN_45, nN_46, nN_47, nN_48, nN_49, nN_50, nN_51, nN_52, nN_53, nN_54, Int.toNat_natCast, saF, saE, ho_upF, ho_upE, ne_eq, not_false_eq_true, Nat.reduceEqDiff, h1, oinc (show l.length < 100000 by omega)]
  refine ⟨by omega, by omega, h _ (sm_up (sm_up (sm_up sm_rf rfl) rfl) rfl) ⟨?_, RW_app h2 ?_ ?_ (fun i hi => ⟨?_, ?_⟩)⟩⟩
  · show ho_up _ 30 27 _ 30 27 = _
    rw [ho_upE, List.length_append]; rfl
  · show ho_up σ 51 l.length (a : Int) 51 l.length = _
    exact ho_upE
  · show ho_up (ho_up σ 51 l.length (a : Int)) 52 l.length (b : Int) 52 l.length = _
    exact ho_upE
  · show ho_up σ 51 l.length (a : Int) 51 i = _
    exact ho_upJ (by omega)
  · show ho_up (ho_up σ 51 l.length (a : Int)) 52 l.length (b : Int) 52 i = _
    exact ho_upJ (by omega)
theorem sp_spaceOf {T : Nat → Int} {t a b n : Nat} {σ : ho_S} {Q : ho_K} {X : ho_X} (ht : t < 48) (hT : MTX σ t n T) (hab : a ≤ b) (hb : b ≤ n) (h : Q (spc T (σ 30 25) a b) σ) : mX7_spaceOf [30, (t : Int), (a : Int), (b : Int)] σ Q X := by
  have hn := hT.2.1
  obtain ⟨W, hW⟩ : ∃ W, W = σ 30 25 := ⟨_, rfl⟩
  rw [← hW] at h
  simp only [mX7_spaceOf, fX7_spaceOf, u_eC, u_eV, u_eF, u_eR, u_eI, u_eL, u_eB, u_eD, u_eM, u_eU, u_aN, u_aC, u_eK, u_eT, u_cLt, u_cLe, u_cGt, u_cGe, u_cEq, u_cNe, u_cAnd, u_cOr, u_cNot, u_zN, u_zS, u_zD, u_zL, u_zI, u_zB, u_zP, u_zF, u_zA, u_zU, u_zC, u_zR, u_zRZ, u_zRC, u_zRV, u_zT, u_zE, u_zK, u_zY, ho_nid, List.getD_cons_zero, List.getD_cons_succ, List.set_cons_zero, List.set_cons_succ, List.cons_append, List.nil_append, List.take_succ_cons, List.take_zero, Int.reduceToNat, Int.toNat_natCast, nN_0, nN_1, nN_2, nN_3, nN_4, nN_5, nN_6, nN_7, nN_8, nN_9, nN_10, nN_11, nN_12, nN_13, nN_14, nN_15, nN_16, nN_17, nN_18, nN_19, nN_20, nN_21, nN_22, nN_23, nN_24, nN_25, nN_26, nN_27, nN_28, nN_29, nN_30, nN_31, nN_32, nN_33, nN_34, nN_35, nN_36, nN_37, nN_38, nN_39, nN_40, nN_41, nN_42, nN_43, nN_44, nN_45, nN_46, nN_47, nN_48, nN_49, nN_50, nN_51, nN_52, nN_53, nN_54, nR_0_0, nR_0_1, nR_0_2, nR_0_3, nR_0_4, nR_0_5, nR_0_6, nR_0_7, nR_0_8, nR_0_9, nR_0_10, nR_1_0, nR_1_1, nR_1_2, nR_1_3, nR_1_4, nR_2_0, nR_2_1, nR_2_2, nR_2_3, nR_2_4, nR_3_0, nR_3_1, nR_4_2, nR_5_2, nR_6_0, nR_6_1, nR_6_2, nR_7_0, nR_30_2, nR_30_3, nR_30_4, nR_30_6, nR_30_7, nR_30_9, nR_30_10, nR_30_11, nR_30_12, nR_30_13, nR_30_14, nR_30_15, nR_30_16, nR_30_18, nR_30_19, nR_30_20, nR_30_21, nR_30_22, nR_30_23, nR_30_24, nR_30_28, nR_30_29, nR_30_31]
  refine zW_rule (fun v σ' m => ∃ k : Nat, k ≤ b - 1 - (a + 1) ∧ v = [30, (t : Int), (a : Int), (b : Int), (bst T W a b k).1, (bst T W a b k).2, ((a + 1 + k : Nat) : Int)] ∧ m = b - 1 - (a + 1) - k ∧ σ' = σ) _ ⟨0, by omega, ?_, rfl, rfl⟩ ?_
  · rw [oinc (by omega)]; rfl
  rintro v σ' m ⟨k, hk, rfl, rfl, rfl⟩ KK KE hKK hKE
  simp only [u_eC, u_eV, u_eF, u_eR, u_eI, u_eL, u_eB, u_eD, u_eM, u_eU, u_aN, u_aC, u_eK, u_eT, u_cLt, u_cLe, u_cGt, u_cGe, u_cEq, u_cNe, u_cAnd, u_cOr, u_cNot, u_zN, u_zS, u_zD, u_zL, u_zI, u_zB, u_zP, u_zF, u_zA, u_zU, u_zC, u_zR, u_zRZ, u_zRC, u_zRV, u_zT, u_zE, u_zK, u_zY, ho_nid, List.getD_cons_zero, List.getD_cons_succ, List.set_cons_zero, List.set_cons_succ, List.cons_append, List.nil_append, List.take_succ_cons, List.take_zero, Int.reduceToNat, Int.toNat_natCast, nN_0, nN_1, nN_2, nN_3, nN_4, nN_5, nN_6, nN_7, nN_8, nN_9, nN_10, nN_11, nN_12, nN_13, nN_14, nN_15, nN_16, nN_17, nN_18, nN_19, nN_20, nN_21, nN_22, nN_23, nN_24, nN_25, nN_26, nN_27, nN_28, nN_29, nN_30, nN_31, nN_32, nN_33, nN_34, nN_35, nN_36, nN_37, nN_38, nN_39, nN_40, nN_41, nN_42, nN_43, nN_44, nN_45, nN_46, nN_47, nN_48, nN_49, nN_50, nN_51, nN_52, nN_53, nN_54, nR_0_0, nR_0_1, nR_0_2, nR_0_3, nR_0_4, nR_0_5, nR_0_6, nR_0_7, nR_0_8, nR_0_9, nR_0_10, nR_1_0, nR_1_1, nR_1_2, nR_1_3, nR_1_4, nR_2_0, nR_2_1, nR_2_2, nR_2_3, nR_2_4, nR_3_0, nR_3_1, nR_4_2, nR_5_2, nR_6_0, nR_6_1, nR_6_2, nR_7_0, nR_30_2, nR_30_3, nR_30_4, nR_30_6, nR_30_7, nR_30_9, nR_30_10, nR_30_11, nR_30_12, nR_30_13, nR_30_14, nR_30_15, nR_30_16, nR_30_18, nR_30_19, nR_30_20, nR_30_21, nR_30_22, nR_30_23, nR_30_24, nR_30_28, nR_30_29, nR_30_31, (show ho_osub (b : Int) 1 = (b : Int) - 1 from wsu (by omega) (by omega)), (show ho_oadd ((a + 1 + k : Nat) : Int) 1 = ((a + 1 + k + 1 : Nat) : Int) from oinc (by omega)), (show ho_w (((a + 1 + k : Nat) : Int) + 1) = ((a + 1 + (k + 1) : Nat) : Int) from inc (by omega)), ← hW]
  refine ⟨fun c1 => ?_, fun c1 => hKE _ ?_⟩
  · have e5 : ho_oadd (ho_omul 60 (t : Int)) ((a + 1 + k : Nat) : Int) = ((60 * t + (a + 1 + k) : Nat) : Int) := o60 (by omega) (by omega)
    simp only [mR_30_2, mR_30_3, mR_30_4, mR_30_6, mR_30_7, mR_30_9, mR_30_10, mR_30_11, mR_30_12, mR_30_13, mR_30_14, mR_30_15, mR_30_16, mR_30_18, mR_30_19, mR_30_20, mR_30_21, mR_30_22, mR_30_23, mR_30_24, mR_30_28, mR_30_29, mR_30_31, mR_0_9, mR_7_0, nN_25, nN_26, nN_27, nN_28, nN_29, nN_30, nN_31, nN_32, nN_33, nN_34, nN_35, nN_36, nN_37, nN_38, nN_39, nN_40, nN_41, nN_42, nN_43, nN_44, nN_45, nN_46, nN_47, nN_48, nN_49, nN_50, nN_51, nN_52, nN_53, nN_54, Int.toNat_natCast, e5, (show ho_osub ((60 * t + (a + 1 + k) : Nat) : Int) 1 = ((60 * t + (a + k) : Nat) : Int) from by rw [show 60 * t + (a + 1 + k) = 60 * t + (a + k) + 1 by omega]; exact odec (by omega)), Int.toNat_natCast]
    clear e5
    have nx : ∀ x y : Int, bst T W a b (k + 1) = (x, y) → KK [30, (t : Int), (a : Int), (b : Int), x, y, ((a + 1 + (k + 1) : Nat) : Int)] σ' := fun x y e => hKK _ _ (b - 1 - (a + 1) - (k + 1)) (by omega) ⟨k + 1, by omega, by rw [e], rfl, rfl⟩
    have hP : may T W a b (a + 1 + k) (bst T W a b k) → KK [30, (t : Int), (a : Int), (b : Int), ((a + 1 + k : Nat) : Int), cst T a b (a + 1 + k), ((a + 1 + (k + 1) : Nat) : Int)] σ' := fun z => nx _ _ (bst_y z)
    have hN : ¬ may T W a b (a + 1 + k) (bst T W a b k) → KK [30, (t : Int), (a : Int), (b : Int), (bst T W a b k).1, (bst T W a b k).2, ((a + 1 + (k + 1) : Nat) : Int)] σ' := fun z => nx _ _ (bst_n z)
    refine sp_widthFromT ht hT (by omega) (by omega) ?_
    refine sp_widthFromT ht hT (by omega) (by omega) ?_
    rw [MTX_at hT (show a + k < n by omega)]
    simp only [sp_isMark, ite01, ite01e, ← hW, MTX_at hT (show a + 1 + k < n by omega)]
    have hl := pre_diff T (show a ≤ a + 1 + k by omega)
    have hr := pre_diff T (show a + 1 + k + 1 ≤ b by omega)
    have fin : ∀ z : Int, z = (if stp (T (a + k)) then 0 else 5) → ∀ y : Int, y = (if pre T b - pre T (a + 1 + k + 1) < pre T (a + 1 + k) - pre T a then (pre T (a + 1 + k) - pre T a) - (pre T b - pre T (a + 1 + k + 1)) else (pre T b - pre T (a + 1 + k + 1)) - (pre T (a + 1 + k) - pre T a)) + z → y = cst T a b (a + 1 + k) := by
      intro z hz y hy
      rw [hy, hz]
      unfold cst
      rw [show a + 1 + k - 1 = a + k by omega]
    have step : ∀ y : Int, y = cst T a b (a + 1 + k) → (0 : Int) ≤ ((60 * t + (a + 1 + k) : Nat) : Int) ∧ ((60 * t + (a + 1 + k) : Nat) : Int) < 2880 := fun _ _ => by omega
    have s2 := step _ rfl
    clear step
    have s3 : (0 : Int) ≤ ((60 * t + (a + k) : Nat) : Int) ∧ ((60 * t + (a + k) : Nat) : Int) < 2880 := by omega
    -- the end of each way
    have tail : ∀ y : Int, y = cst T a b (a + 1 + k) →
        ((((T (a + 1 + k) = 32 → (pre T (a + 1 + k) - pre T a ≤ W → (pre T b - pre T (a + 1 + k + 1) ≤ W → ((bst T W a b k).1 = -1 → KK [30, (t : Int), (a : Int), (b : Int), ((a + 1 + k : Nat) : Int), y, ((a + 1 + (k + 1) : Nat) : Int)] σ') ∧ ((bst T W a b k).1 ≠ -1 → (y < (bst T W a b k).2 → KK [30, (t : Int), (a : Int), (b : Int), ((a + 1 + k : Nat) : Int), y, ((a + 1 + (k + 1) : Nat) : Int)] σ') ∧ ((bst T W a b k).2 ≤ y → KK [30, (t : Int), (a : Int), (b : Int), (bst T W a b k).1, (bst T W a b k).2, ((a + 1 + (k + 1) : Nat) : Int)] σ'))) ∧ (W < pre T b - pre T (a + 1 + k + 1) → KK [30, (t : Int), (a : Int), (b : Int), (bst T W a b k).1, (bst T W a b k).2, ((a + 1 + (k + 1) : Nat) : Int)] σ')) ∧ (W < pre T (a + 1 + k) - pre T a → KK [30, (t : Int), (a : Int), (b : Int), (bst T W a b k).1, (bst T W a b k).2, ((a + 1 + (k + 1) : Nat) : Int)] σ')) ∧ (T (a + 1 + k) ≠ 32 → KK [30, (t : Int), (a : Int), (b : Int), (bst T W a b k).1, (bst T W a b k).2, ((a + 1 + (k + 1) : Nat) : Int)] σ')))) := by
      intro y hy
      subst hy
      refine ⟨fun c2 => ⟨fun l => ⟨fun r => ⟨fun e => hP ⟨c2, l, r, Or.inl e⟩, fun e => ⟨fun q => hP ⟨c2, l, r, Or.inr q⟩, fun q => hN ?_⟩⟩, fun r => hN ?_⟩, fun l => hN ?_⟩, fun c2 => hN (fun z => c2 z.1)⟩
      · rintro ⟨_, _, _, z | z⟩
        · exact e z
        · exact Int.not_lt.mpr q z
      · rintro ⟨_, _, z, _⟩
        exact Int.not_lt.mpr z r
      · rintro ⟨_, z, _, _⟩
        exact Int.not_lt.mpr z l
    have w1 : ∀ z : Int, (z = 0 ∨ z = 5) → pre T b - pre T (a + 1 + k + 1) < pre T (a + 1 + k) - pre T a → ho_oadd (ho_osub (pre T (a + 1 + k) - pre T a) (pre T b - pre T (a + 1 + k + 1))) z = (if pre T b - pre T (a + 1 + k + 1) < pre T (a + 1 + k) - pre T a then (pre T (a + 1 + k) - pre T a) - (pre T b - pre T (a + 1 + k + 1)) else (pre T b - pre T (a + 1 + k + 1)) - (pre T (a + 1 + k) - pre T a)) + z := by
      intro z hz q
      rw [if_pos q, wsu (by omega) (by omega), wad (by omega) (by omega)]
    have w2 : ∀ z : Int, (z = 0 ∨ z = 5) → pre T (a + 1 + k) - pre T a ≤ pre T b - pre T (a + 1 + k + 1) → ho_oadd (ho_osub (pre T b - pre T (a + 1 + k + 1)) (pre T (a + 1 + k) - pre T a)) z = (if pre T b - pre T (a + 1 + k + 1) < pre T (a + 1 + k) - pre T a then (pre T (a + 1 + k) - pre T a) - (pre T b - pre T (a + 1 + k + 1)) else (pre T b - pre T (a + 1 + k + 1)) - (pre T (a + 1 + k) - pre T a)) + z := by
      intro z hz q
      rw [if_neg (Int.not_lt.mpr q), wsu (by omega) (by omega), wad (by omega) (by omega)]
    have z1 : ((0 : Int) ≠ 0) = False := by simp
    have z2 : ((1 : Int) ≠ 0) = True := by simp
    have z3 : ((0 : Int) = 0) = True := by simp
    have z4 : ((1 : Int) = 0) = False := by simp
    simp only [z1, z2, z3, z4, false_implies, true_implies, and_true, true_and]
    refine ⟨fun g => ⟨s3, fun s => ⟨s2, ?_⟩, fun s => ⟨s2, ?_⟩⟩, fun g => ⟨s3, fun s => ⟨s2, ?_⟩, fun s => ⟨s2, ?_⟩⟩⟩
    · rw [w1 0 (Or.inl rfl) g]
      exact tail _ (fin 0 (by rw [if_pos s]) _ rfl)
    · rw [w1 5 (Or.inr rfl) g]
      exact tail _ (fin 5 (by rw [if_neg s]) _ rfl)
    · rw [w2 0 (Or.inl rfl) g]
      exact tail _ (fin 0 (by rw [if_pos s]) _ rfl)
    · rw [w2 5 (Or.inr rfl) g]
      exact tail _ (fin 5 (by rw [if_neg s]) _ rfl)
  · have : k = b - 1 - (a + 1) := by omega
    subst this
    exact h
theorem sp_laysPart {T : Nat → Int} {t a b n : Nat} {l : List (Nat × Nat)} {σ : ho_S} {Q : ho_K} {X : ho_X} (ht : t < 48) (hT : MTX σ t n T) (hab : a ≤ b) (hb : b ≤ n) (hl : l.length + (prt T (σ 30 25) a b).length ≤ 64) (hL : MR σ l) (h : ∀ σ', sm pRo σ σ' → MR σ' (l ++ prt T (σ 30 25) a b) → Q 0 σ') : mX7_laysPart [30, (t : Int), (a : Int), (b : Int)] σ Q X := by
  have hn := hT.2.1
  obtain ⟨W, hW⟩ : ∃ W, W = σ 30 25 := ⟨_, rfl⟩
  rw [← hW] at hl h
  simp only [mX7_laysPart, fX7_laysPart, u_eC, u_eV, u_eF, u_eR, u_eI, u_eL, u_eB, u_eD, u_eM, u_eU, u_aN, u_aC, u_eK, u_eT, u_cLt, u_cLe, u_cGt, u_cGe, u_cEq, u_cNe, u_cAnd, u_cOr, u_cNot, u_zN, u_zS, u_zD, u_zL, u_zI, u_zB, u_zP, u_zF, u_zA, u_zU, u_zC, u_zR, u_zRZ, u_zRC, u_zRV, u_zT, u_zE, u_zK, u_zY, ho_nid, List.getD_cons_zero, List.getD_cons_succ, List.set_cons_zero, List.set_cons_succ, List.cons_append, List.nil_append, List.take_succ_cons, List.take_zero, Int.reduceToNat, Int.toNat_natCast, nN_0, nN_1, nN_2, nN_3, nN_4, nN_5, nN_6, nN_7, nN_8, nN_9, nN_10, nN_11, nN_12, nN_13, nN_14, nN_15, nN_16, nN_17, nN_18, nN_19, nN_20, nN_21, nN_22, nN_23, nN_24, nN_25, nN_26, nN_27, nN_28, nN_29, nN_30, nN_31, nN_32, nN_33, nN_34, nN_35, nN_36, nN_37, nN_38, nN_39, nN_40, nN_41, nN_42, nN_43, nN_44, nN_45, nN_46, nN_47, nN_48, nN_49, nN_50, nN_51, nN_52, nN_53, nN_54, nR_0_0, nR_0_1, nR_0_2, nR_0_3, nR_0_4, nR_0_5, nR_0_6, nR_0_7, nR_0_8, nR_0_9, nR_0_10, nR_1_0, nR_1_1, nR_1_2, nR_1_3, nR_1_4, nR_2_0, nR_2_1, nR_2_2, nR_2_3, nR_2_4, nR_3_0, nR_3_1, nR_4_2, nR_5_2, nR_6_0, nR_6_1, nR_6_2, nR_7_0, nR_30_2, nR_30_3, nR_30_4, nR_30_6, nR_30_7, nR_30_9, nR_30_10, nR_30_11, nR_30_12, nR_30_13, nR_30_14, nR_30_15, nR_30_16, nR_30_18, nR_30_19, nR_30_20, nR_30_21, nR_30_22, nR_30_23, nR_30_24, nR_30_28, nR_30_29, nR_30_31]
  refine sp_widthFromT ht hT hab hb ?_
  rw [← hW]
  have one : prt T W a b = [(a, b)] → mX7_addsRow [30, (a : Int), (b : Int)] σ (fun _ σ => Q 0 σ) X := by
    intro e
    rw [e] at hl h
    exact sp_addsRow (by simp at hl; omega) hL h
  refine ⟨fun c1 => ⟨fun _ => one (if_neg (fun z => Int.not_lt.mpr c1 z.1)), fun z => absurd rfl z⟩, fun c1 => ?_⟩
  refine sp_spaceOf ht hT hab hb ?_
  rw [← hW]
  refine ⟨fun c2 => one (if_neg (fun z => z.2 c2)), fun c2 => ?_⟩
  have rg := spc_rg (T := T) (W := W) (a := a) (b := b)
  obtain ⟨s, hs⟩ : ∃ s : Nat, spc T W a b = (s : Int) := ⟨(spc T W a b).toNat, by omega⟩
  have e : prt T W a b = [(a, s), (s + 1, b)] := by
    unfold prt
    rw [if_pos ⟨c1, c2⟩, hs]
    rfl
  rw [e] at hl h
  rw [hs] at rg ⊢
  have hl2 : l.length + 2 ≤ 64 := hl
  rw [oinc (by omega)]
  refine sp_addsRow (by omega) hL (fun σ1 s1 L1 => ?_)
  refine sp_addsRow (by rw [List.length_append]; simp; omega) L1 (fun σ2 s2 L2 => ?_)
  refine h σ2 (sm_tr s1 s2) ?_
  rw [List.append_assoc] at L2
  exact L2
theorem sp_laysRows {T : Nat → Int} {t n : Nat} {σ : ho_S} {Q : ho_K} {X : ho_X} (ht : t < 48) (hT : MTX σ t n T) (h : ∀ σ', sm pRo σ σ' → MR σ' (rws T (σ 30 25) n) → Q 0 σ') : mX7_laysRows [30, (t : Int)] σ Q X := by
  have hn := hT.2.1
  obtain ⟨W, hW⟩ : ∃ W, W = σ 30 25 := ⟨_, rfl⟩
  rw [← hW] at h
  simp only [mX7_laysRows, fX7_laysRows, u_eC, u_eV, u_eF, u_eR, u_eI, u_eL, u_eB, u_eD, u_eM, u_eU, u_aN, u_aC, u_eK, u_eT, u_cLt, u_cLe, u_cGt, u_cGe, u_cEq, u_cNe, u_cAnd, u_cOr, u_cNot, u_zN, u_zS, u_zD, u_zL, u_zI, u_zB, u_zP, u_zF, u_zA, u_zU, u_zC, u_zR, u_zRZ, u_zRC, u_zRV, u_zT, u_zE, u_zK, u_zY, ho_nid, List.getD_cons_zero, List.getD_cons_succ, List.set_cons_zero, List.set_cons_succ, List.cons_append, List.nil_append, List.take_succ_cons, List.take_zero, Int.reduceToNat, Int.toNat_natCast, nN_0, nN_1, nN_2, nN_3, nN_4, nN_5, nN_6, nN_7, nN_8, nN_9, nN_10, nN_11, nN_12, nN_13, nN_14, nN_15, nN_16, nN_17, nN_18, nN_19, nN_20, nN_21, nN_22, nN_23, nN_24, nN_25, nN_26, nN_27, nN_28, nN_29, nN_30, nN_31, nN_32, nN_33, nN_34, nN_35, nN_36, nN_37, nN_38, nN_39, nN_40, nN_41, nN_42, nN_43, nN_44, nN_45, nN_46, nN_47, nN_48, nN_49, nN_50, nN_51, nN_52, nN_53, nN_54, nR_0_0, nR_0_1, nR_0_2, nR_0_3, nR_0_4, nR_0_5, nR_0_6, nR_0_7, nR_0_8, nR_0_9, nR_0_10, nR_1_0, nR_1_1, nR_1_2, nR_1_3, nR_1_4, nR_2_0, nR_2_1, nR_2_2, nR_2_3, nR_2_4, nR_3_0, nR_3_1, nR_4_2, nR_5_2, nR_6_0, nR_6_1, nR_6_2, nR_7_0, nR_30_2, nR_30_3, nR_30_4, nR_30_6, nR_30_7, nR_30_9, nR_30_10, nR_30_11, nR_30_12, nR_30_13, nR_30_14, nR_30_15, nR_30_16, nR_30_18, nR_30_19, nR_30_20, nR_30_21, nR_30_22, nR_30_23, nR_30_24, nR_30_28, nR_30_29, nR_30_31]
  refine zW_rule (fun v σ' m => ∃ k : Nat, k ≤ n ∧ v = [30, (t : Int), ((acc T W k).1 : Int), (k : Int)] ∧ m = n - k ∧ sm pRo σ σ' ∧ MR σ' (acc T W k).2) _ ⟨0, by omega, rfl, rfl, sm_up sm_rf rfl, ho_upE, RW_nil⟩ ?_
  rintro v σ' m ⟨k, hk, rfl, rfl, hs, hL⟩ KK KE hKK hKE
  have hT' := MTX_sm hT hs (fun _ => rfl) (fun _ => rfl)
  have hW' : σ' 30 25 = W := (hs 30 25 rfl).trans hW.symm
  have r1 := acc_rg (T := T) (W := W) k
  have ez : σ' 41 t = (n : Int) := hT'.1
  simp only [u_eC, u_eV, u_eF, u_eR, u_eI, u_eL, u_eB, u_eD, u_eM, u_eU, u_aN, u_aC, u_eK, u_eT, u_cLt, u_cLe, u_cGt, u_cGe, u_cEq, u_cNe, u_cAnd, u_cOr, u_cNot, u_zN, u_zS, u_zD, u_zL, u_zI, u_zB, u_zP, u_zF, u_zA, u_zU, u_zC, u_zR, u_zRZ, u_zRC, u_zRV, u_zT, u_zE, u_zK, u_zY, ho_nid, List.getD_cons_zero, List.getD_cons_succ, List.set_cons_zero, List.set_cons_succ, List.cons_append, List.nil_append, List.take_succ_cons, List.take_zero, Int.reduceToNat, Int.toNat_natCast, nN_0, nN_1, nN_2, nN_3, nN_4, nN_5, nN_6, nN_7, nN_8, nN_9, nN_10, nN_11, nN_12, nN_13, nN_14, nN_15, nN_16, nN_17, nN_18, nN_19, nN_20, nN_21, nN_22, nN_23, nN_24, nN_25, nN_26, nN_27, nN_28, nN_29, nN_30, nN_31, nN_32, nN_33, nN_34, nN_35, nN_36, nN_37, nN_38, nN_39, nN_40, nN_41, nN_42, nN_43, nN_44, nN_45, nN_46, nN_47, nN_48, nN_49, nN_50, nN_51, nN_52, nN_53, nN_54, nR_0_0, nR_0_1, nR_0_2, nR_0_3, nR_0_4, nR_0_5, nR_0_6, nR_0_7, nR_0_8, nR_0_9, nR_0_10, nR_1_0, nR_1_1, nR_1_2, nR_1_3, nR_1_4, nR_2_0, nR_2_1, nR_2_2, nR_2_3, nR_2_4, nR_3_0, nR_3_1, nR_4_2, nR_5_2, nR_6_0, nR_6_1, nR_6_2, nR_7_0, nR_30_2, nR_30_3, nR_30_4, nR_30_6, nR_30_7, nR_30_9, nR_30_10, nR_30_11, nR_30_12, nR_30_13, nR_30_14, nR_30_15, nR_30_16, nR_30_18, nR_30_19, nR_30_20, nR_30_21, nR_30_22, nR_30_23, nR_30_24, nR_30_28, nR_30_29, nR_30_31, (show ho_oadd (ho_omul 60 (t : Int)) (k : Int) = ((60 * t + k : Nat) : Int) from o60 (by omega) (by omega)), inc (show k < 100000 by omega), oinc (show k < 100000 by omega)]
  simp only [mR_30_2, mR_30_3, mR_30_4, mR_30_6, mR_30_7, mR_30_9, mR_30_10, mR_30_11, mR_30_12, mR_30_13, mR_30_14, mR_30_15, mR_30_16, mR_30_18, mR_30_19, mR_30_20, mR_30_21, mR_30_22, mR_30_23, mR_30_24, mR_30_28, mR_30_29, mR_30_31, mR_0_9, mR_7_0, nN_25, nN_26, nN_27, nN_28, nN_29, nN_30, nN_31, nN_32, nN_33, nN_34, nN_35, nN_36, nN_37, nN_38, nN_39, nN_40, nN_41, nN_42, nN_43, nN_44, nN_45, nN_46, nN_47, nN_48, nN_49, nN_50, nN_51, nN_52, nN_53, nN_54, Int.toNat_natCast, ez]
  refine ⟨⟨by omega, by omega⟩, fun c1 => ⟨⟨by omega, by omega⟩, ?_, ?_⟩, fun c1 => hKE _ ?_⟩
  · have hkn : k < n := by omega
    rw [MTX_at hT' hkn]
    intro c2
    have r2 := prt_len (T := T) (W := W) r1.1
    refine sp_laysPart ht hT' r1.1 (by omega) (by rw [hW']; omega) hL (fun σ3 s3 L3 => ?_)
    rw [hW'] at L3
    refine hKK _ _ (n - (k + 1)) (by omega) ⟨k + 1, by omega, ?_, rfl, sm_tr hs s3, ?_⟩
    · rw [acc_y c2]
    · rw [acc_y c2]; exact L3
  · have hkn : k < n := by omega
    rw [MTX_at hT' hkn]
    intro c2
    refine hKK _ _ (n - (k + 1)) (by omega) ⟨k + 1, by omega, ?_, rfl, hs, ?_⟩
    · rw [acc_n c2]
    · rw [acc_n c2]; exact hL
  · have hkn : k = n := by omega
    subst hkn
    simp only [u_eC, u_eV, u_eF, u_eR, u_eI, u_eL, u_eB, u_eD, u_eM, u_eU, u_aN, u_aC, u_eK, u_eT, u_cLt, u_cLe, u_cGt, u_cGe, u_cEq, u_cNe, u_cAnd, u_cOr, u_cNot, u_zN, u_zS, u_zD, u_zL, u_zI, u_zB, u_zP, u_zF, u_zA, u_zU, u_zC, u_zR, u_zRZ, u_zRC, u_zRV, u_zT, u_zE, u_zK, u_zY, ho_nid, List.getD_cons_zero, List.getD_cons_succ, List.set_cons_zero, List.set_cons_succ, List.cons_append, List.nil_append, List.take_succ_cons, List.take_zero, Int.reduceToNat, Int.toNat_natCast, nN_0, nN_1, nN_2, nN_3, nN_4, nN_5, nN_6, nN_7, nN_8, nN_9, nN_10, nN_11, nN_12, nN_13, nN_14, nN_15, nN_16, nN_17, nN_18, nN_19, nN_20, nN_21, nN_22, nN_23, nN_24, nN_25, nN_26, nN_27, nN_28, nN_29, nN_30, nN_31, nN_32, nN_33, nN_34, nN_35, nN_36, nN_37, nN_38, nN_39, nN_40, nN_41, nN_42, nN_43, nN_44, nN_45, nN_46, nN_47, nN_48, nN_49, nN_50, nN_51, nN_52, nN_53, nN_54, nR_0_0, nR_0_1, nR_0_2, nR_0_3, nR_0_4, nR_0_5, nR_0_6, nR_0_7, nR_0_8, nR_0_9, nR_0_10, nR_1_0, nR_1_1, nR_1_2, nR_1_3, nR_1_4, nR_2_0, nR_2_1, nR_2_2, nR_2_3, nR_2_4, nR_3_0, nR_3_1, nR_4_2, nR_5_2, nR_6_0, nR_6_1, nR_6_2, nR_7_0, nR_30_2, nR_30_3, nR_30_4, nR_30_6, nR_30_7, nR_30_9, nR_30_10, nR_30_11, nR_30_12, nR_30_13, nR_30_14, nR_30_15, nR_30_16, nR_30_18, nR_30_19, nR_30_20, nR_30_21, nR_30_22, nR_30_23, nR_30_24, nR_30_28, nR_30_29, nR_30_31]
    simp only [mR_30_2, mR_30_3, mR_30_4, mR_30_6, mR_30_7, mR_30_9, mR_30_10, mR_30_11, mR_30_12, mR_30_13, mR_30_14, mR_30_15, mR_30_16, mR_30_18, mR_30_19, mR_30_20, mR_30_21, mR_30_22, mR_30_23, mR_30_24, mR_30_28, mR_30_29, mR_30_31, mR_0_9, mR_7_0, nN_25, nN_26, nN_27, nN_28, nN_29, nN_30, nN_31, nN_32, nN_33, nN_34, nN_35, nN_36, nN_37, nN_38, nN_39, nN_40, nN_41, nN_42, nN_43, nN_44, nN_45, nN_46, nN_47, nN_48, nN_49, nN_50, nN_51, nN_52, nN_53, nN_54, Int.toNat_natCast, ez]
    refine ⟨⟨by omega, by omega⟩, fun c2 => ⟨⟨by omega, by omega⟩, ?_⟩, fun c2 => ?_⟩
    · have r2 := prt_len (T := T) (W := W) r1.1
      have ec : rws T W k = (acc T W k).2 ++ prt T W (acc T W k).1 k := if_neg (by omega)
      refine sp_laysPart ht hT' r1.1 (Nat.le_refl _) (by rw [hW']; omega) hL (fun σ3 s3 L3 => ?_)
      rw [hW', ← ec] at L3
      exact h σ3 (sm_tr hs s3) L3
    · have hk0 : k = 0 := by omega
      subst hk0
      exact h σ' hs hL
