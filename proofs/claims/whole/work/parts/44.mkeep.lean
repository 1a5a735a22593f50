-- the model keeps, and gets
def tlK : ho_Z := (zS (zA ho_nid (eR (eV 0) 20) (eV 4) (eI (eR (eV 0) 14) (eV 2))) (zS (zA ho_nid (eR (eV 0) 22) (eV 4) (eI (eR (eV 0) 14) (eV 3))) (zS (zB 5 (zS (zD (eC 0)) (zW (cLt (eV 5) (eC 60)) (zS (zS (zA ho_nid (eR (eV 0) 21) (eB ho_oadd (eB ho_omul (eC 60) (eV 4)) (eV 5)) (eI (eR (eV 0) 15) (eB ho_oadd (eB ho_omul (eC 60) (eV 2)) (eV 5)))) (zA ho_nid (eR (eV 0) 23) (eB ho_oadd (eB ho_omul (eC 60) (eV 4)) (eV 5)) (eI (eR (eV 0) 15) (eB ho_oadd (eB ho_omul (eC 60) (eV 3)) (eV 5))))) (zI 5 1))))) (zS (zF (eV 0) 17 ho_oadd (eC 1)) (zS (zA ho_nid (eR (eV 0) 24) (eV 4) (eF (eV 0) 17)) (zS (zC (cGt (eI (eR (eV 0) 19) (eV 1)) (eC 8)) (zK mX7_movesDown (aC (eV 0) (aC (eV 1) (aC (eK mX7_oldest (aC (eV 0) (aC (eV 1) aN))) aN)))) zN) zRV))))))
theorem u_keeps {a : List Int} {σ : ho_S} {Q : ho_K} {X : ho_X} : mX7_keeps a σ Q X ↔ (zS (zD (eK mX7_keptFor (aC (eV 0) (aC (eV 1) (aC (eV 2) aN))))) (zS (zC (cEq (eV 4) (eC (-1))) (zS (zL 4 (eB ho_oadd (eB ho_omul (eC 9) (eV 1)) (eI (eR (eV 0) 19) (eV 1)))) (zU (eR (eV 0) 19) (eV 1) ho_oadd (eC 1))) zN) tlK)) a σ (fun _ _ => False) Q X := Iff.rfl
theorem tl_keeps {m k y a : Nat} {ch : Int} {σ : ho_S} {F : List Int → ho_S → Prop} {Q : ho_K} {X : ho_X} (hm : m < 2) (hk : k < 18) (hy : y < 48) (ha : a < 48) (hch : σ 30 17 = ch) (h0 : 0 ≤ ch) (h9 : ch < 100000)
    (h : ∀ σ', sm pMk σ σ' → σ' 45 = σ 45 → σ' 30 17 = ch + 1 → (σ' 46 k = σ 41 y ∧ σ' 48 k = σ 41 a ∧ σ' 50 k = ch + 1 ∧ ∀ i, i < 60 → σ' 47 (60 * k + i) = σ 42 (60 * y + i) ∧ σ' 49 (60 * k + i) = σ 42 (60 * a + i)) → (∀ q, q ≠ k → rowE σ' q σ q) → (8 < σ' 45 m → mX7_oldest [30, (m : Int)] σ' (fun r σ => mX7_movesDown [30, (m : Int), r] σ (fun _ σ => Q 0 σ) X) X) ∧ (σ' 45 m ≤ 8 → Q 0 σ')) : tlK [30, (m : Int), (y : Int), (a : Int), (k : Int)] σ F Q X := by
  simp only [tlK, u_eC, u_eV, u_eF, u_eR, u_eI, u_eL, u_eB, u_eD, u_eM, u_eU, u_aN, u_aC, u_eK, u_eT, u_cLt, u_cLe, u_cGt, u_cGe, u_cEq, u_cNe, u_cAnd, u_cOr, u_cNot, u_zN, u_zS, u_zD, u_zL, u_zI, u_zB, u_zP, u_zF, u_zA, u_zU, u_zC, u_zR, u_zRZ, u_zRC, u_zRV, u_zT, u_zE, u_zK, u_zY, ho_nid, List.getD_cons_zero, List.getD_cons_succ, List.set_cons_zero, List.set_cons_succ, List.cons_append, List.nil_append, List.take_succ_cons, List.take_zero, Int.reduceToNat, Int.toNat_natCast, nN_0, nN_1, nN_2, nN_3, nN_4, nN_5, nN_6, nN_7, nN_8, nN_9, nN_10, nN_11, nN_12, nN_13, nN_14, nN_15, nN_16, nN_17, nN_18, nN_19, nN_20, nN_21, nN_22, nN_23, nN_24, nN_25, nN_26, nN_27, nN_28, nN_29, nN_30, nN_31, nN_32, nN_33, nN_34, nN_35, nN_36, nN_37, nN_38, nN_39, nN_40, nN_41, nN_42, nN_43, nN_44, nN_45, nN_46, nN_47, nN_48, nN_49, nN_50, nN_51, nN_52, nN_53, nN_54, nR_0_0, nR_0_1, nR_0_2, nR_0_3, nR_0_4, nR_0_5, nR_0_6, nR_0_7, nR_0_8, nR_0_9, nR_0_10, nR_1_0, nR_1_1, nR_1_2, nR_1_3, nR_1_4, nR_2_0, nR_2_1, nR_2_2, nR_2_3, nR_2_4, nR_3_0, nR_3_1, nR_4_2, nR_5_2, nR_6_0, nR_6_1, nR_6_2, nR_7_0, nR_30_2, nR_30_3, nR_30_4, nR_30_6, nR_30_7, nR_30_9, nR_30_10, nR_30_11, nR_30_12, nR_30_13, nR_30_14, nR_30_15, nR_30_16, nR_30_18, nR_30_19, nR_30_20, nR_30_21, nR_30_22, nR_30_23, nR_30_24, nR_30_28, nR_30_29, nR_30_31]
  simp only [mR_30_2, mR_30_3, mR_30_4, mR_30_6, mR_30_7, mR_30_9, mR_30_10, mR_30_11, mR_30_12, mR_30_13, mR_30_14, mR_30_15, mR_30_16, mR_30_18, mR_30_19, mR_30_20, mR_30_21, mR_30_22, mR_30_23, mR_30_24, mR_30_28, mR_30_29, mR_30_31, mR_0_9, mR_7_0, nN_25, nN_26, nN_27, nN_28, nN_29, nN_30, nN_31, nN_32, nN_33, nN_34, nN_35, nN_36, nN_37, nN_38, nN_39, nN_40, nN_41, nN_42, nN_43, nN_44, nN_45, nN_46, nN_47, nN_48, nN_49, nN_50, nN_51, nN_52, nN_53, nN_54, Int.toNat_natCast, saF, saE, ho_upF, ho_upE, ne_eq, not_false_eq_true, Nat.reduceEqDiff]
  refine ⟨by omega, by omega, by omega, by omega, ?_⟩
  obtain ⟨τ, hτ⟩ : ∃ τ, τ = ho_up (ho_up σ 46 k (σ 41 y)) 48 k (σ 41 a) := ⟨_, rfl⟩
  have sτ : sm pMk σ τ := by rw [hτ]; exact sm_up (sm_up sm_rf rfl) rfl
  have t42 : τ 42 = σ 42 := by rw [hτ]; rfl
  have t45 : τ 45 = σ 45 := by rw [hτ]; rfl
  have t47 : τ 47 = σ 47 := by rw [hτ]; rfl
  have t49 : τ 49 = σ 49 := by rw [hτ]; rfl
  have t50 : τ 50 = σ 50 := by rw [hτ]; rfl
  have t30 : τ 30 = σ 30 := by rw [hτ]; rfl
  have t46 : ∀ j, τ 46 j = if j = k then σ 41 y else σ 46 j := fun j => by
    rw [hτ]
    show ho_up σ 46 k (σ 41 y) 46 j = _
    rw [ho_upA]
  have t48 : ∀ j, τ 48 j = if j = k then σ 41 a else σ 48 j := fun j => by
    rw [hτ, ho_upA]
    rfl
  have loop : ∀ Q9 : List Int → ho_S → Prop, (∀ σ1, sm (fun k _ => Nat.beq k 47 || Nat.beq k 49) τ σ1 → (∀ q, σ1 47 q = if 60 * k ≤ q ∧ q < 60 * k + 60 then σ 42 (60 * y + (q - 60 * k)) else σ 47 q) → (∀ q, σ1 49 q = if 60 * k ≤ q ∧ q < 60 * k + 60 then σ 42 (60 * a + (q - 60 * k)) else σ 49 q) → Q9 [30, (m : Int), (y : Int), (a : Int), (k : Int), 60] σ1) → zW (cLt (eV 5) (eC 60)) (zS (zS (zA ho_nid (eR (eV 0) 21) (eB ho_oadd (eB ho_omul (eC 60) (eV 4)) (eV 5)) (eI (eR (eV 0) 15) (eB ho_oadd (eB ho_omul (eC 60) (eV 2)) (eV 5)))) (zA ho_nid (eR (eV 0) 23) (eB ho_oadd (eB ho_omul (eC 60) (eV 4)) (eV 5)) (eI (eR (eV 0) 15) (eB ho_oadd (eB ho_omul (eC 60) (eV 3)) (eV 5))))) (zI 5 1)) [30, (m : Int), (y : Int), (a : Int), (k : Int), 0] τ Q9 Q X := by
    intro Q9 hQ9
    refine zW_rule (fun v σ1 z => ∃ i : Nat, i ≤ 60 ∧ v = [30, (m : Int), (y : Int), (a : Int), (k : Int), (i : Int)] ∧ z = 60 - i ∧ sm (fun k _ => Nat.beq k 47 || Nat.beq k 49) τ σ1 ∧ (∀ q, σ1 47 q = if 60 * k ≤ q ∧ q < 60 * k + i then σ 42 (60 * y + (q - 60 * k)) else σ 47 q) ∧ (∀ q, σ1 49 q = if 60 * k ≤ q ∧ q < 60 * k + i then σ 42 (60 * a + (q - 60 * k)) else σ 49 q)) _ ⟨0, by omega, rfl, rfl, sm_rf, fun q => by rw [if_neg (by omega), t47], fun q => by rw [if_neg (by omega), t49]⟩ ?_
    rintro v σ1 z ⟨i, hi, rfl, rfl, s1, g1, g2⟩ K2 KE2 hK2 hE2
    have u42 : σ1 42 = σ 42 := (sm_fn s1 42 (fun _ => rfl)).trans t42
    have e4 : i < 60 → ho_oadd (ho_omul 60 (y : Int)) (i : Int) = ((60 * y + i : Nat) : Int) := fun _ => o60 (by omega) (by omega)
    simp only [u_eC, u_eV, u_eF, u_eR, u_eI, u_eL, u_eB, u_eD, u_eM, u_eU, u_aN, u_aC, u_eK, u_eT, u_cLt, u_cLe, u_cGt, u_cGe, u_cEq, u_cNe, u_cAnd, u_cOr, u_cNot, u_zN, u_zS, u_zD, u_zL, u_zI, u_zB, u_zP, u_zF, u_zA, u_zU, u_zC, u_zR, u_zRZ, u_zRC, u_zRV, u_zT, u_zE, u_zK, u_zY, ho_nid, List.getD_cons_zero, List.getD_cons_succ, List.set_cons_zero, List.set_cons_succ, List.cons_append, List.nil_append, List.take_succ_cons, List.take_zero, Int.reduceToNat, Int.toNat_natCast, nN_0, nN_1, nN_2, nN_3, nN_4, nN_5, nN_6, nN_7, nN_8, nN_9, nN_10, nN_11, nN_12, nN_13, nN_14, nN_15, nN_16, nN_17, nN_18, nN_19, nN_20, nN_21, nN_22, nN_23, nN_24, nN_25, nN_26, nN_27, nN_28, nN_29, nN_30, nN_31, nN_32, nN_33, nN_34, nN_35, nN_36, nN_37, nN_38, nN_39, nN_40, nN_41, nN_42, nN_43, nN_44, nN_45, nN_46, nN_47, nN_48, nN_49, nN_50, nN_51, nN_52, nN_53, nN_54, nR_0_0, nR_0_1, nR_0_2, nR_0_3, nR_0_4, nR_0_5, nR_0_6, nR_0_7, nR_0_8, nR_0_9, nR_0_10, nR_1_0, nR_1_1, nR_1_2, nR_1_3, nR_1_4, nR_2_0, nR_2_1, nR_2_2, nR_2_3, nR_2_4, nR_3_0, nR_3_1, nR_4_2, nR_5_2, nR_6_0, nR_6_1, nR_6_2, nR_7_0, nR_30_2, nR_30_3, nR_30_4, nR_30_6, nR_30_7, nR_30_9, nR_30_10, nR_30_11, nR_30_12, nR_30_13, nR_30_14, nR_30_15, nR_30_16, nR_30_18, nR_30_19, nR_30_20, nR_30_21, nR_30_22, nR_30_23, nR_30_24, nR_30_28, nR_30_29, nR_30_31, inc (show i < 100000 by omega)]
    simp only [mR_30_2, mR_30_3, mR_30_4, mR_30_6, mR_30_7, mR_30_9, mR_30_10, mR_30_11, mR_30_12, mR_30_13, mR_30_14, mR_30_15, mR_30_16, mR_30_18, mR_30_19, mR_30_20, mR_30_21, mR_30_22, mR_30_23, mR_30_24, mR_30_28, mR_30_29, mR_30_31, mR_0_9, mR_7_0, nN_25, nN_26, nN_27, nN_28, nN_29, nN_30, nN_31, nN_32, nN_33, nN_34, nN_35, nN_36, nN_37, nN_38, nN_39, nN_40, nN_41, nN_42, nN_43, nN_44, nN_45, nN_46, nN_47, nN_48, nN_49, nN_50, nN_51, nN_52, nN_53, nN_54, Int.toNat_natCast, saF, saE, ho_upF, ho_upE, ne_eq, not_false_eq_true, Nat.reduceEqDiff, (show ho_oadd (ho_omul 60 (k : Int)) (i : Int) = ((60 * k + i : Nat) : Int) from o60 (by omega) (by omega)), (show ho_oadd (ho_omul 60 (y : Int)) (i : Int) = ((60 * y + i : Nat) : Int) from o60 (by omega) (by omega)), (show ho_oadd (ho_omul 60 (a : Int)) (i : Int) = ((60 * a + i : Nat) : Int) from o60 (by omega) (by omega))]
    refine ⟨fun c2 => ⟨by omega, by omega, by omega, by omega, hK2 _ _ (60 - (i + 1)) (by omega) ⟨i + 1, by omega, rfl, rfl, sm_up (sm_up s1 rfl) rfl, fun q => ?_, fun q => ?_⟩⟩, fun c2 => hE2 _ ?_⟩
    · show ho_up σ1 47 (60 * k + i) (σ1 42 (60 * y + i)) 47 q = _
      rw [ho_upA, u42]
      by_cases w : q = 60 * k + i
      · rw [if_pos w, if_pos (by omega)]; congr 1; omega
      · rw [if_neg w, g1]
        by_cases w2 : 60 * k ≤ q ∧ q < 60 * k + i
        · rw [if_pos w2, if_pos (by omega)]
        · rw [if_neg w2, if_neg (by omega)]
    · rw [ho_upA, u42]
      by_cases w : q = 60 * k + i
      · rw [if_pos w, if_pos (by omega)]; congr 1; omega
      · rw [if_neg w]
        show σ1 49 q = _
        rw [g2]
        by_cases w2 : 60 * k ≤ q ∧ q < 60 * k + i
        · rw [if_pos w2, if_pos (by omega)]
        · rw [if_neg w2, if_neg (by omega)]
    · have hi60 : i = 60 := by omega
      subst hi60
      exact hQ9 σ1 s1 g1 g2
  rw [hτ] at loop
  refine loop _ (fun σ1 s1 g1 g2 => ?_)
  rw [← hτ] at s1
  have u45 : σ1 45 = σ 45 := (sm_fn s1 45 (fun _ => rfl)).trans t45
  have u30 : σ1 30 = σ 30 := (sm_fn s1 30 (fun _ => rfl)).trans t30
  have u46 : σ1 46 = τ 46 := sm_fn s1 46 (fun _ => rfl)
  have u48 : σ1 48 = τ 48 := sm_fn s1 48 (fun _ => rfl)
  have u50 : σ1 50 = σ 50 := (sm_fn s1 50 (fun _ => rfl)).trans t50
  have s2 : sm pMk σ σ1 := sm_tr sτ (sm_mo s1 (fun k j z => by
    unfold pMk at z
    cases a : Nat.beq k 47 <;> cases b : Nat.beq k 49 <;> simp [a, b] at z ⊢))
  simp only [u_eC, u_eV, u_eF, u_eR, u_eI, u_eL, u_eB, u_eD, u_eM, u_eU, u_aN, u_aC, u_eK, u_eT, u_cLt, u_cLe, u_cGt, u_cGe, u_cEq, u_cNe, u_cAnd, u_cOr, u_cNot, u_zN, u_zS, u_zD, u_zL, u_zI, u_zB, u_zP, u_zF, u_zA, u_zU, u_zC, u_zR, u_zRZ, u_zRC, u_zRV, u_zT, u_zE, u_zK, u_zY, ho_nid, List.getD_cons_zero, List.getD_cons_succ, List.set_cons_zero, List.set_cons_succ, List.cons_append, List.nil_append, List.take_succ_cons, List.take_zero, Int.reduceToNat, Int.toNat_natCast, nN_0, nN_1, nN_2, nN_3, nN_4, nN_5, nN_6, nN_7, nN_8, nN_9, nN_10, nN_11, nN_12, nN_13, nN_14, nN_15, nN_16, nN_17, nN_18, nN_19, nN_20, nN_21, nN_22, nN_23, nN_24, nN_25, nN_26, nN_27, nN_28, nN_29, nN_30, nN_31, nN_32, nN_33, nN_34, nN_35, nN_36, nN_37, nN_38, nN_39, nN_40, nN_41, nN_42, nN_43, nN_44, nN_45, nN_46, nN_47, nN_48, nN_49, nN_50, nN_51, nN_52, nN_53, nN_54, nR_0_0, nR_0_1, nR_0_2, nR_0_3, nR_0_4, nR_0_5, nR_0_6, nR_0_7, nR_0_8, nR_0_9, nR_0_10, nR_1_0, nR_1_1, nR_1_2, nR_1_3, nR_1_4, nR_2_0, nR_2_1, nR_2_2, nR_2_3, nR_2_4, nR_3_0, nR_3_1, nR_4_2, nR_5_2, nR_6_0, nR_6_1, nR_6_2, nR_7_0, nR_30_2, nR_30_3, nR_30_4, nR_30_6, nR_30_7, nR_30_9, nR_30_10, nR_30_11, nR_30_12, nR_30_13, nR_30_14, nR_30_15, nR_30_16, nR_30_18, nR_30_19, nR_30_20, nR_30_21, nR_30_22, nR_30_23, nR_30_24, nR_30_28, nR_30_29, nR_30_31]
  simp only [mR_30_2, mR_30_3, mR_30_4, mR_30_6, mR_30_7, mR_30_9, mR_30_10, mR_30_11, mR_30_12, mR_30_13, mR_30_14, mR_30_15, mR_30_16, mR_30_18, mR_30_19, mR_30_20, mR_30_21, mR_30_22, mR_30_23, mR_30_24, mR_30_28, mR_30_29, mR_30_31, mR_0_9, mR_7_0, nN_25, nN_26, nN_27, nN_28, nN_29, nN_30, nN_31, nN_32, nN_33, nN_34, nN_35, nN_36, nN_37, nN_38, nN_39, nN_40, nN_41, nN_42, nN_43, nN_44, nN_45, nN_46, nN_47, nN_48, nN_49, nN_50, nN_51, nN_52, nN_53, nN_54, Int.toNat_natCast, saF, saE, ho_upF, ho_upE, ne_eq, not_false_eq_true, Nat.reduceEqDiff, (show ho_oadd (σ1 30 17) 1 = ch + 1 from by rw [u30, hch]; exact wad (by omega) (by omega))]
  refine ⟨by omega, by omega, ?_⟩
  have fin := h (ho_up (ho_up σ1 30 17 (ch + 1)) 50 k (ch + 1)) (sm_up (sm_up s2 rfl) rfl) u45 (show ho_up σ1 30 17 (ch + 1) 30 17 = ch + 1 from ho_upE) ⟨?_, ?_, ?_, fun i hi => ⟨?_, ?_⟩⟩ (fun q hq => ⟨?_, ?_, ?_, fun i hi => ⟨?_, ?_⟩⟩)
  · exact fin
  · show σ1 46 k = _
    rw [u46, t46, if_pos rfl]
  · show σ1 48 k = _
    rw [u48, t48, if_pos rfl]
  · exact ho_upE
  · show σ1 47 _ = _
    rw [g1, if_pos (by omega)]; congr 1; omega
  · show σ1 49 _ = _
    rw [g2, if_pos (by omega)]; congr 1; omega
  · show σ1 46 q = _
    rw [u46, t46, if_neg hq]
  · show σ1 48 q = _
    rw [u48, t48, if_neg hq]
  · rw [ho_upJ hq]
    show σ1 50 q = _
    rw [u50]
  · show σ1 47 _ = _
    rw [g1, if_neg (by omega)]
  · show σ1 49 _ = _
    rw [g2, if_neg (by omega)]
def MM (σ : ho_S) (m K : Nat) (E : Nat → TV × TV) : Prop :=
  σ 45 m = (K : Int) ∧ RF (fun r => tv (σ 47) (σ 46) (9 * m + r)) (fun r => tv (σ 49) (σ 48) (9 * m + r)) (fun r => σ 50 (9 * m + r)) K (σ 30 17) E
theorem SZM_rows {σ σ' : ho_S} (hz : SZM σ) (h41 : σ' 41 = σ 41) (h : ∀ k, k < 18 → (∃ q, q < 18 ∧ rowE σ' k σ q) ∨ ∃ y a, y < 48 ∧ a < 48 ∧ σ' 46 k = σ 41 y ∧ σ' 48 k = σ 41 a) : SZM σ' := by
  refine ⟨by rw [h41]; exact hz.1, fun x hx => ?_⟩
  rcases h x hx with ⟨q, hq, e⟩ | ⟨y, a, hy, ha, e1, e2⟩
  · rw [e.1, e.2.1]; exact hz.2 q hq
  · rw [e1, e2]; exact ⟨hz.1 y hy, hz.1 a ha⟩
theorem sp_keeps {m K y a : Nat} {ch : Int} {E : Nat → TV × TV} {σ : ho_S} {Q : ho_K} {X : ho_X} (hm : m < 2) (hC : MM σ m K E) (hK8 : K ≤ 8) (hy : y < 48) (ha : a < 48) (hz : SZM σ) (hch : σ 30 17 = ch) (h0 : 0 ≤ ch) (h9 : ch < 100000)
    (h : ∀ K' E', KEEP K E (tv (σ 42) (σ 41) y) (tv (σ 42) (σ 41) a) K' E' → ∀ σ', sm pMk σ σ' → MM σ' m K' E' → σ' 30 17 = ch + 1 → (∀ k, k < 18 → (k < 9 * m ∨ 9 * m + 9 ≤ k) → rowE σ' k σ k) → (∀ j, j ≠ m → σ' 45 j = σ 45 j) → SZM σ' → Q 0 σ') : mX7_keeps [30, (m : Int), (y : Int), (a : Int)] σ Q X := by
  obtain ⟨hK, p, p1, p2, p3, p4, p5, p6⟩ := hC
  rw [hch] at p6
  have zy := hz.1 y hy
  have za := hz.1 a ha
  refine u_keeps.mpr ?_
  have e1 : ho_oadd (ho_omul 9 (m : Int)) (K : Int) = ((9 * m + K : Nat) : Int) := o9 (by omega) (by omega)
  simp only [u_eC, u_eV, u_eF, u_eR, u_eI, u_eL, u_eB, u_eD, u_eM, u_eU, u_aN, u_aC, u_eK, u_eT, u_cLt, u_cLe, u_cGt, u_cGe, u_cEq, u_cNe, u_cAnd, u_cOr, u_cNot, u_zN, u_zS, u_zD, u_zL, u_zI, u_zB, u_zP, u_zF, u_zA, u_zU, u_zC, u_zR, u_zRZ, u_zRC, u_zRV, u_zT, u_zE, u_zK, u_zY, ho_nid, List.getD_cons_zero, List.getD_cons_succ, List.set_cons_zero, List.set_cons_succ, List.cons_append, List.nil_append, List.take_succ_cons, List.take_zero, Int.reduceToNat, Int.toNat_natCast, nN_0, nN_1, nN_2, nN_3, nN_4, nN_5, nN_6, nN_7, nN_8, nN_9, nN_10, nN_11, nN_12, nN_13, nN_14, nN_15, nN_16, nN_17, nN_18, nN_19, nN_20, nN_21, nN_22, nN_23, nN_24, nN_25, nN_26, nN_27, nN_28, nN_29, nN_30, nN_31, nN_32, nN_33, nN_34, nN_35, nN_36, nN_37, nN_38, nN_39, nN_40, nN_41, nN_42, nN_43, nN_44, nN_45, nN_46, nN_47, nN_48, nN_49, nN_50, nN_51, nN_52, nN_53, nN_54, nR_0_0, nR_0_1, nR_0_2, nR_0_3, nR_0_4, nR_0_5, nR_0_6, nR_0_7, nR_0_8, nR_0_9, nR_0_10, nR_1_0, nR_1_1, nR_1_2, nR_1_3, nR_1_4, nR_2_0, nR_2_1, nR_2_2, nR_2_3, nR_2_4, nR_3_0, nR_3_1, nR_4_2, nR_5_2, nR_6_0, nR_6_1, nR_6_2, nR_7_0, nR_30_2, nR_30_3, nR_30_4, nR_30_6, nR_30_7, nR_30_9, nR_30_10, nR_30_11, nR_30_12, nR_30_13, nR_30_14, nR_30_15, nR_30_16, nR_30_18, nR_30_19, nR_30_20, nR_30_21, nR_30_22, nR_30_23, nR_30_24, nR_30_28, nR_30_29, nR_30_31]
  refine sp_keptFor hm hK (by omega) hy hz (fun r hr e => ⟨fun z => absurd z (by omega), fun _ => ?_⟩) (fun hn => ⟨fun _ => ?_, fun z => absurd rfl z⟩)
  · obtain ⟨i, hi, rfl⟩ := p3 r hr
    refine tl_keeps hm (by omega) hy ha hch h0 h9 (fun σ' s1 h45 hc hrow hoth => ⟨fun z => ?_, fun _ => ?_⟩)
    · rw [h45, hK] at z; omega
    have h41 : σ' 41 = σ 41 := sm_fn s1 41 (fun _ => rfl)
    refine h K _ (Or.inl ⟨i, hi, (p4 i hi).1.symm.trans e, rfl, rfl⟩) σ' s1 ⟨by rw [h45]; exact hK, ?_⟩ hc (fun k hk hk2 => hoth k (by omega)) (fun j hj => by rw [h45]) (SZM_rows hz h41 (fun k hk => ?_))
    · rw [hc]
      refine RF_put (a := fun r => tv (σ 47) (σ 46) (9 * m + r)) (b := fun r => tv (σ 49) (σ 48) (9 * m + r)) (us := fun r => σ 50 (9 * m + r)) (s := p i) p1 p2 p3 p4 p5 p6 (Or.inl ⟨hi, rfl, rfl⟩) (by omega) hrow.2.2.1 ⟨?_, ?_⟩ (fun x hx hxs => ?_)
      · exact tv_eq hrow.1 (fun w hw => (hrow.2.2.2 w (by rw [hrow.1] at hw; omega)).1)
      · exact tv_eq hrow.2.1 (fun w hw => (hrow.2.2.2 w (by rw [hrow.2.1] at hw; omega)).2)
      · have := hoth (9 * m + x) (by omega)
        have z9 := hz.2 (9 * m + x) (by omega)
        exact ⟨(rowE_tv this z9.1.2 z9.2.2).1, (rowE_tv this z9.1.2 z9.2.2).2, this.2.2.1⟩
    · by_cases q : k = 9 * m + p i
      · exact Or.inr ⟨y, a, hy, ha, by rw [q]; exact hrow.1, by rw [q]; exact hrow.2.1⟩
      · exact Or.inl ⟨k, hk, hoth k q⟩
  · simp only [mR_30_2, mR_30_3, mR_30_4, mR_30_6, mR_30_7, mR_30_9, mR_30_10, mR_30_11, mR_30_12, mR_30_13, mR_30_14, mR_30_15, mR_30_16, mR_30_18, mR_30_19, mR_30_20, mR_30_21, mR_30_22, mR_30_23, mR_30_24, mR_30_28, mR_30_29, mR_30_31, mR_0_9, mR_7_0, nN_25, nN_26, nN_27, nN_28, nN_29, nN_30, nN_31, nN_32, nN_33, nN_34, nN_35, nN_36, nN_37, nN_38, nN_39, nN_40, nN_41, nN_42, nN_43, nN_44, nN_45, nN_46, nN_47, nN_48, nN_49, nN_50, nN_51, nN_52, nN_53, nN_54, Int.toNat_natCast, saF, saE, ho_upF, ho_upE, ne_eq, not_false_eq_true, Nat.reduceEqDiff, hK, e1, oinc (show K < 100000 by omega)]
    refine ⟨by omega, by omega, ?_⟩
    have nf : ∀ i, i < K → (E i).1 ≠ tv (σ 42) (σ 41) y := fun i hi q => hn (p i) (p1 i hi) ((p4 i hi).1.trans q)
    refine tl_keeps hm (by omega) hy ha hch h0 h9 (fun σ' s1 h45 hc hrow hoth => ?_)
    have s2 : sm pMk σ σ' := sm_tr (sm_up sm_rf rfl) s1
    have h45m : σ' 45 m = ((K + 1 : Nat) : Int) := by rw [h45]; exact ho_upE
    have h45' : ∀ j, j ≠ m → σ' 45 j = σ 45 j := fun j hj => by rw [h45]; exact ho_upJ hj
    have hoth2 : ∀ q, q ≠ 9 * m + K → rowE σ' q σ q := fun q hq => hoth q hq
    have h41 : σ' 41 = σ 41 := sm_fn s2 41 (fun _ => rfl)
    have hrow2 : σ' 46 (9 * m + K) = σ 41 y ∧ σ' 48 (9 * m + K) = σ 41 a ∧ σ' 50 (9 * m + K) = ch + 1 ∧ ∀ i, i < 60 → σ' 47 (60 * (9 * m + K) + i) = σ 42 (60 * y + i) ∧ σ' 49 (60 * (9 * m + K) + i) = σ 42 (60 * a + i) := hrow
    clear hrow hoth
    have hz' : SZM σ' := SZM_rows hz h41 (fun k hk => by
      by_cases q : k = 9 * m + K
      · exact Or.inr ⟨y, a, hy, ha, by rw [q]; exact hrow2.1, by rw [q]; exact hrow2.2.1⟩
      · exact Or.inl ⟨k, hk, hoth2 k q⟩)
    have hRF : RF (fun r => tv (σ' 47) (σ' 46) (9 * m + r)) (fun r => tv (σ' 49) (σ' 48) (9 * m + r)) (fun r => σ' 50 (9 * m + r)) (K + 1) (ch + 1) (psh K E (K + 1) (tv (σ 42) (σ 41) y, tv (σ 42) (σ 41) a)) := by
      refine RF_put (a := fun r => tv (σ 47) (σ 46) (9 * m + r)) (b := fun r => tv (σ 49) (σ 48) (9 * m + r)) (us := fun r => σ 50 (9 * m + r)) (s := K) p1 p2 p3 p4 p5 p6 (Or.inr ⟨rfl, rfl, rfl⟩) (by omega) hrow2.2.2.1 ⟨?_, ?_⟩ (fun x hx hxs => ?_)
      · exact tv_eq hrow2.1 (fun w hw => (hrow2.2.2.2 w (by rw [hrow2.1] at hw; omega)).1)
      · exact tv_eq hrow2.2.1 (fun w hw => (hrow2.2.2.2 w (by rw [hrow2.2.1] at hw; omega)).2)
      · have := hoth2 (9 * m + x) (by omega)
        have z9 := hz.2 (9 * m + x) (by omega)
        exact ⟨(rowE_tv this z9.1.2 z9.2.2).1, (rowE_tv this z9.1.2 z9.2.2).2, this.2.2.1⟩
    refine ⟨fun c8 => ?_, fun c8 => ?_⟩
    · have hK9 : K = 8 := by rw [h45m] at c8; omega
      subst hK9
      obtain ⟨q, q1, q2, q3, q4, q5, q6⟩ := hRF
      refine sp_oldest hm h45m (by omega) (by omega) (fun r hr hmin => ?_)
      have hr0 : r = q 0 := by
        obtain ⟨j, hj, rfl⟩ := q3 r hr
        by_cases z : j = 0
        · rw [z]
        · have a1 := q5 0 j (by omega) hj
          have a2 := hmin (q 0) (q1 0 (by omega))
          dsimp only at a1
          omega
      refine sp_movesDown (K := 8) hm h45m (by omega) (by omega) (fun σ2 s3 c2 d45 d45' drow => ?_)
      have z2 := hz'.2
      have w41 : σ2 41 = σ' 41 := sm_fn s3 41 (fun _ => rfl)
      refine h 8 _ (Or.inr (Or.inr ⟨nf, rfl, rfl, rfl⟩)) σ2 (sm_tr s2 s3) ⟨d45, ?_⟩ (c2.trans hc) (fun k hk hk2 => ?_) (fun j hj => (d45' j hj).trans (h45' j hj)) (SZM_rows hz' w41 (fun k hk => ?_))
      · rw [c2, hc]
        refine RF_E (RF_drop (a := fun r => tv (σ' 47) (σ' 46) (9 * m + r)) (b := fun r => tv (σ' 49) (σ' 48) (9 * m + r)) (us := fun r => σ' 50 (9 * m + r)) (K := 8) q1 q2 q3 q4 q5 q6 (fun x hx => ⟨fun z => ?_, fun z => ?_⟩)) (fun j hj => ?_)
        · have := (drow (9 * m + x)).2 (Or.inl (by omega))
          have z9 := z2 (9 * m + x) (by omega)
          exact ⟨(rowE_tv this z9.1.2 z9.2.2).1, (rowE_tv this z9.1.2 z9.2.2).2, this.2.2.1⟩
        · have := (drow (9 * m + x)).1 (by omega)
          have z9 := z2 (9 * m + x + 1) (by omega)
          exact ⟨(rowE_tv this z9.1.2 z9.2.2).1, (rowE_tv this z9.1.2 z9.2.2).2, this.2.2.1⟩
        · by_cases w : j + 1 < 8
          · rw [psh_m w (by omega), psh_l (by omega) w]
          · rw [psh_z w, psh_z (by omega)]
      · have a1 := (drow k).2 (by omega)
        have a2 := hoth2 k (by omega)
        exact ⟨a1.1.trans a2.1, a1.2.1.trans a2.2.1, a1.2.2.1.trans a2.2.2.1, fun i hi => ⟨(a1.2.2.2 i hi).1.trans (a2.2.2.2 i hi).1, (a1.2.2.2 i hi).2.trans (a2.2.2.2 i hi).2⟩⟩
      · by_cases w : 9 * m + r ≤ k ∧ k < 9 * m + 8
        · exact Or.inl ⟨k + 1, by omega, (drow k).1 w⟩
        · exact Or.inl ⟨k, hk, (drow k).2 (by omega)⟩
    · have hK9 : K < 8 := by rw [h45m] at c8; omega
      refine h (K + 1) _ (Or.inr (Or.inl ⟨nf, hK9, rfl, rfl⟩)) σ' s2 ⟨h45m, ?_⟩ hc (fun k hk hk2 => hoth2 k (by omega)) h45' hz'
      rw [hc]; exact hRF
def pGt (k j : Nat) : Bool := Nat.beq k 41 || (Nat.beq k 42 || (Nat.beq k 43 || (Nat.beq k 44 || (Nat.beq k 50 || (Nat.beq k 30 && Nat.beq j 17)))))
theorem sp_gets {c t k : Nat} {ch : Int} {σ : ho_S} {Q : ho_K} {X : ho_X} (hc : c < 16) (ht : t < 3) (hk : k < 18) (hz : SZM σ) (hch : σ 30 17 = ch) (h0 : 0 ≤ ch) (h9 : ch < 100000)
    (h : ∀ σ', sm pGt σ σ' → tv (σ' 42) (σ' 41) (3 * c + t) = tv (σ 49) (σ 48) k → (∀ x, x < 48 → x ≠ 3 * c + t → tv (σ' 42) (σ' 41) x = tv (σ 42) (σ 41) x) → σ' 30 17 = ch + 1 → (∀ j, σ' 43 j = if j = 3 * c + t then ch + 1 else σ 43 j) → (∀ j, σ' 50 j = if j = k then ch + 1 else σ 50 j) → σ' 44 = fgn (σ 44) (3 * c + t) 1 → SZM σ' → Q 0 σ') : mX7_gets [30, (c : Int), (t : Int), (k : Int)] σ Q X := by
  have zk := (hz.2 k hk).2
  simp only [mX7_gets, fX7_gets, u_eC, u_eV, u_eF, u_eR, u_eI, u_eL, u_eB, u_eD, u_eM, u_eU, u_aN, u_aC, u_eK, u_eT, u_cLt, u_cLe, u_cGt, u_cGe, u_cEq, u_cNe, u_cAnd, u_cOr, u_cNot, u_zN, u_zS, u_zD, u_zL, u_zI, u_zB, u_zP, u_zF, u_zA, u_zU, u_zC, u_zR, u_zRZ, u_zRC, u_zRV, u_zT, u_zE, u_zK, u_zY, ho_nid, List.getD_cons_zero, List.getD_cons_succ, List.set_cons_zero, List.set_cons_succ, List.cons_append, List.nil_append, List.take_succ_cons, List.take_zero, Int.reduceToNat, Int.toNat_natCast, nN_0, nN_1, nN_2, nN_3, nN_4, nN_5, nN_6, nN_7, nN_8, nN_9, nN_10, nN_11, nN_12, nN_13, nN_14, nN_15, nN_16, nN_17, nN_18, nN_19, nN_20, nN_21, nN_22, nN_23, nN_24, nN_25, nN_26, nN_27, nN_28, nN_29, nN_30, nN_31, nN_32, nN_33, nN_34, nN_35, nN_36, nN_37, nN_38, nN_39, nN_40, nN_41, nN_42, nN_43, nN_44, nN_45, nN_46, nN_47, nN_48, nN_49, nN_50, nN_51, nN_52, nN_53, nN_54, nR_0_0, nR_0_1, nR_0_2, nR_0_3, nR_0_4, nR_0_5, nR_0_6, nR_0_7, nR_0_8, nR_0_9, nR_0_10, nR_1_0, nR_1_1, nR_1_2, nR_1_3, nR_1_4, nR_2_0, nR_2_1, nR_2_2, nR_2_3, nR_2_4, nR_3_0, nR_3_1, nR_4_2, nR_5_2, nR_6_0, nR_6_1, nR_6_2, nR_7_0, nR_30_2, nR_30_3, nR_30_4, nR_30_6, nR_30_7, nR_30_9, nR_30_10, nR_30_11, nR_30_12, nR_30_13, nR_30_14, nR_30_15, nR_30_16, nR_30_18, nR_30_19, nR_30_20, nR_30_21, nR_30_22, nR_30_23, nR_30_24, nR_30_28, nR_30_29, nR_30_31, mIdx hc ht]
  simp only [mR_30_2, mR_30_3, mR_30_4, mR_30_6, mR_30_7, mR_30_9, mR_30_10, mR_30_11, mR_30_12, mR_30_13, mR_30_14, mR_30_15, mR_30_16, mR_30_18, mR_30_19, mR_30_20, mR_30_21, mR_30_22, mR_30_23, mR_30_24, mR_30_28, mR_30_29, mR_30_31, mR_0_9, mR_7_0, nN_25, nN_26, nN_27, nN_28, nN_29, nN_30, nN_31, nN_32, nN_33, nN_34, nN_35, nN_36, nN_37, nN_38, nN_39, nN_40, nN_41, nN_42, nN_43, nN_44, nN_45, nN_46, nN_47, nN_48, nN_49, nN_50, nN_51, nN_52, nN_53, nN_54, Int.toNat_natCast, saF, saE, ho_upF, ho_upE, ne_eq, not_false_eq_true, Nat.reduceEqDiff]
  refine ⟨by omega, by omega, ?_⟩
  obtain ⟨τ, hτ⟩ : ∃ τ, τ = ho_up σ 41 (3 * c + t) (σ 48 k) := ⟨_, rfl⟩
  have loop : ∀ Q9 : List Int → ho_S → Prop, (∀ σ1, sm (fun k _ => Nat.beq k 42) τ σ1 → (∀ q, σ1 42 q = if 60 * (3 * c + t) ≤ q ∧ q < 60 * (3 * c + t) + 60 then σ 49 (60 * k + (q - 60 * (3 * c + t))) else σ 42 q) → Q9 [30, (c : Int), (t : Int), (k : Int), ((3 * c + t : Nat) : Int), 60] σ1) → zW (cLt (eV 5) (eC 60)) (zS (zA ho_nid (eR (eV 0) 15) (eB ho_oadd (eB ho_omul (eC 60) (eV 4)) (eV 5)) (eI (eR (eV 0) 23) (eB ho_oadd (eB ho_omul (eC 60) (eV 3)) (eV 5)))) (zI 5 1)) [30, (c : Int), (t : Int), (k : Int), ((3 * c + t : Nat) : Int), 0] τ Q9 Q X := by
    intro Q9 hQ9
    refine zW_rule (fun v σ1 z => ∃ i : Nat, i ≤ 60 ∧ v = [30, (c : Int), (t : Int), (k : Int), ((3 * c + t : Nat) : Int), (i : Int)] ∧ z = 60 - i ∧ sm (fun k _ => Nat.beq k 42) τ σ1 ∧ (∀ q, σ1 42 q = if 60 * (3 * c + t) ≤ q ∧ q < 60 * (3 * c + t) + i then σ 49 (60 * k + (q - 60 * (3 * c + t))) else σ 42 q)) _ ⟨0, by omega, rfl, rfl, sm_rf, fun q => by rw [if_neg (by omega), hτ]; rfl⟩ ?_
    rintro v σ1 z ⟨i, hi, rfl, rfl, s1, g1⟩ K2 KE2 hK2 hE2
    have u49 : σ1 49 = σ 49 := (sm_fn s1 49 (fun _ => rfl)).trans (by rw [hτ]; rfl)
    simp only [u_eC, u_eV, u_eF, u_eR, u_eI, u_eL, u_eB, u_eD, u_eM, u_eU, u_aN, u_aC, u_eK, u_eT, u_cLt, u_cLe, u_cGt, u_cGe, u_cEq, u_cNe, u_cAnd, u_cOr, u_cNot, u_zN, u_zS, u_zD, u_zL, u_zI, u_zB, u_zP, u_zF, u_zA, u_zU, u_zC, u_zR, u_zRZ, u_zRC, u_zRV, u_zT, u_zE, u_zK, u_zY, ho_nid, List.getD_cons_zero, List.getD_cons_succ, List.set_cons_zero, List.set_cons_succ, List.cons_append, List.nil_append, List.take_succ_cons, List.take_zero, Int.reduceToNat, Int.toNat_natCast, nN_0, nN_1, nN_2, nN_3, nN_4, nN_5, nN_6, nN_7, nN_8, nN_9, nN_10, nN_11, nN_12, nN_13, nN_14, nN_15, nN_16, nN_17, nN_18, nN_19, nN_20, nN_21, nN_22, nN_23, nN_24, nN_25, nN_26, nN_27, nN_28, nN_29, nN_30, nN_31, nN_32, nN_33, nN_34, nN_35, nN_36, nN_37, nN_38, nN_39, nN_40, nN_41, nN_42, nN_43, nN_44, nN_45, nN_46, nN_47, nN_48, nN_49, nN_50, nN_51, nN_52, nN_53, nN_54, nR_0_0, nR_0_1, nR_0_2, nR_0_3, nR_0_4, nR_0_5, nR_0_6, nR_0_7, nR_0_8, nR_0_9, nR_0_10, nR_1_0, nR_1_1, nR_1_2, nR_1_3, nR_1_4, nR_2_0, nR_2_1, nR_2_2, nR_2_3, nR_2_4, nR_3_0, nR_3_1, nR_4_2, nR_5_2, nR_6_0, nR_6_1, nR_6_2, nR_7_0, nR_30_2, nR_30_3, nR_30_4, nR_30_6, nR_30_7, nR_30_9, nR_30_10, nR_30_11, nR_30_12, nR_30_13, nR_30_14, nR_30_15, nR_30_16, nR_30_18, nR_30_19, nR_30_20, nR_30_21, nR_30_22, nR_30_23, nR_30_24, nR_30_28, nR_30_29, nR_30_31, inc (show i < 100000 by omega)]
    simp only [mR_30_2, mR_30_3, mR_30_4, mR_30_6, mR_30_7, mR_30_9, mR_30_10, mR_30_11, mR_30_12, mR_30_13, mR_30_14, mR_30_15, mR_30_16, mR_30_18, mR_30_19, mR_30_20, mR_30_21, mR_30_22, mR_30_23, mR_30_24, mR_30_28, mR_30_29, mR_30_31, mR_0_9, mR_7_0, nN_25, nN_26, nN_27, nN_28, nN_29, nN_30, nN_31, nN_32, nN_33, nN_34, nN_35, nN_36, nN_37, nN_38, nN_39, nN_40, nN_41, nN_42, nN_43, nN_44, nN_45, nN_46, nN_47, nN_48, nN_49, nN_50, nN_51, nN_52, nN_53, nN_54, Int.toNat_natCast, saF, saE, ho_upF, ho_upE, ne_eq, not_false_eq_true, Nat.reduceEqDiff, (show ho_oadd (ho_omul 60 ((3 * c + t : Nat) : Int)) (i : Int) = ((60 * (3 * c + t) + i : Nat) : Int) from o60 (by omega) (by omega)), (show ho_oadd (ho_omul 60 (k : Int)) (i : Int) = ((60 * k + i : Nat) : Int) from o60 (by omega) (by omega))]
    refine ⟨fun c2 => ⟨by omega, by omega, hK2 _ _ (60 - (i + 1)) (by omega) ⟨i + 1, by omega, rfl, rfl, sm_up s1 rfl, fun q => ?_⟩⟩, fun c2 => hE2 _ ?_⟩
    · rw [ho_upA, u49]
      by_cases w : q = 60 * (3 * c + t) + i
      · rw [if_pos w, if_pos (by omega)]; congr 1; omega
      · rw [if_neg w, g1]
        by_cases w2 : 60 * (3 * c + t) ≤ q ∧ q < 60 * (3 * c + t) + i
        · rw [if_pos w2, if_pos (by omega)]
        · rw [if_neg w2, if_neg (by omega)]
    · have hi60 : i = 60 := by omega
      subst hi60
      exact hQ9 σ1 s1 g1
  rw [hτ] at loop
  refine loop _ (fun σ1 s1 g1 => ?_)
  have u30 : σ1 30 = σ 30 := sm_fn s1 30 (fun _ => rfl)
  have u41 : σ1 41 = ho_up σ 41 (3 * c + t) (σ 48 k) 41 := sm_fn s1 41 (fun _ => rfl)
  have s2 : sm pGt σ σ1 := sm_tr (sm_up sm_rf rfl) (sm_mo s1 (fun k j z => by
    unfold pGt at z
    cases a : Nat.beq k 42 <;> simp [a] at z ⊢))
  simp only [u_eC, u_eV, u_eF, u_eR, u_eI, u_eL, u_eB, u_eD, u_eM, u_eU, u_aN, u_aC, u_eK, u_eT, u_cLt, u_cLe, u_cGt, u_cGe, u_cEq, u_cNe, u_cAnd, u_cOr, u_cNot, u_zN, u_zS, u_zD, u_zL, u_zI, u_zB, u_zP, u_zF, u_zA, u_zU, u_zC, u_zR, u_zRZ, u_zRC, u_zRV, u_zT, u_zE, u_zK, u_zY, ho_nid, List.getD_cons_zero, List.getD_cons_succ, List.set_cons_zero, List.set_cons_succ, List.cons_append, List.nil_append, List.take_succ_cons, List.take_zero, Int.reduceToNat, Int.toNat_natCast, nN_0, nN_1, nN_2, nN_3, nN_4, nN_5, nN_6, nN_7, nN_8, nN_9, nN_10, nN_11, nN_12, nN_13, nN_14, nN_15, nN_16, nN_17, nN_18, nN_19, nN_20, nN_21, nN_22, nN_23, nN_24, nN_25, nN_26, nN_27, nN_28, nN_29, nN_30, nN_31, nN_32, nN_33, nN_34, nN_35, nN_36, nN_37, nN_38, nN_39, nN_40, nN_41, nN_42, nN_43, nN_44, nN_45, nN_46, nN_47, nN_48, nN_49, nN_50, nN_51, nN_52, nN_53, nN_54, nR_0_0, nR_0_1, nR_0_2, nR_0_3, nR_0_4, nR_0_5, nR_0_6, nR_0_7, nR_0_8, nR_0_9, nR_0_10, nR_1_0, nR_1_1, nR_1_2, nR_1_3, nR_1_4, nR_2_0, nR_2_1, nR_2_2, nR_2_3, nR_2_4, nR_3_0, nR_3_1, nR_4_2, nR_5_2, nR_6_0, nR_6_1, nR_6_2, nR_7_0, nR_30_2, nR_30_3, nR_30_4, nR_30_6, nR_30_7, nR_30_9, nR_30_10, nR_30_11, nR_30_12, nR_30_13, nR_30_14, nR_30_15, nR_30_16, nR_30_18, nR_30_19, nR_30_20, nR_30_21, nR_30_22, nR_30_23, nR_30_24, nR_30_28, nR_30_29, nR_30_31]
  refine sp_mmarks hc ht (by rw [u30, hch]; exact h0) (by rw [u30, hch]; omega) ?_
  rw [u30, hch]
  simp only [mR_30_2, mR_30_3, mR_30_4, mR_30_6, mR_30_7, mR_30_9, mR_30_10, mR_30_11, mR_30_12, mR_30_13, mR_30_14, mR_30_15, mR_30_16, mR_30_18, mR_30_19, mR_30_20, mR_30_21, mR_30_22, mR_30_23, mR_30_24, mR_30_28, mR_30_29, mR_30_31, mR_0_9, mR_7_0, nN_25, nN_26, nN_27, nN_28, nN_29, nN_30, nN_31, nN_32, nN_33, nN_34, nN_35, nN_36, nN_37, nN_38, nN_39, nN_40, nN_41, nN_42, nN_43, nN_44, nN_45, nN_46, nN_47, nN_48, nN_49, nN_50, nN_51, nN_52, nN_53, nN_54, Int.toNat_natCast, saF, saE, ho_upF, ho_upE, ne_eq, not_false_eq_true, Nat.reduceEqDiff]
  refine ⟨by omega, sp_forgets hc ht ?_⟩
  have f1 : tv (σ1 42) (σ1 41) (3 * c + t) = tv (σ 49) (σ 48) k := by
    refine tv_eq (by rw [u41, ho_upE]) (fun i hi => ?_)
    have : (i : Int) < 60 := by rw [u41, ho_upE] at hi; omega
    rw [g1, if_pos (by omega)]; congr 1; omega
  have f2 : ∀ x, x < 48 → x ≠ 3 * c + t → tv (σ1 42) (σ1 41) x = tv (σ 42) (σ 41) x := fun x hx hxs => by
    have zx := hz.1 x hx
    refine tv_eq (by rw [u41, ho_upJ hxs]) (fun i hi => ?_)
    have : (i : Int) < 60 := by rw [u41, ho_upJ hxs] at hi; omega
    rw [g1, if_neg (by omega)]
  have o43 : σ1 43 = σ 43 := sm_fn s1 43 (fun _ => rfl)
  have o44 : σ1 44 = σ 44 := sm_fn s1 44 (fun _ => rfl)
  have o50 : σ1 50 = σ 50 := sm_fn s1 50 (fun _ => rfl)
  have o46 : σ1 46 = σ 46 := sm_fn s1 46 (fun _ => rfl)
  have o48 : σ1 48 = σ 48 := sm_fn s1 48 (fun _ => rfl)
  refine h _ (sm_sa (sm_up (sm_up (sm_up s2 rfl) rfl) rfl) (fun _ => rfl)) f1 f2 ?_ (fun j => ?_) (fun j => ?_) ?_ ⟨fun x hx => ?_, fun x hx => ?_⟩
  · show ho_up σ1 30 17 (ch + 1) 30 17 = _
    exact ho_upE
  · show ho_up (ho_up σ1 30 17 (ch + 1)) 43 (3 * c + t) (ch + 1) 43 j = _
    rw [ho_upA]
    show (if _ then _ else σ1 43 j) = _
    rw [o43]
  · show ho_up (ho_up (ho_up σ1 30 17 (ch + 1)) 43 (3 * c + t) (ch + 1)) 50 k _ 50 j = _
    rw [ho_upA]
    show (if _ then ho_up σ1 30 17 (ch + 1) 30 17 else σ1 50 j) = _
    rw [o50, ho_upE]
  · show sa _ 44 (fgn (σ1 44) (3 * c + t) 1) 44 = _
    rw [saE, o44]
  · by_cases q : x = 3 * c + t
    · have : σ1 41 x = σ 48 k := by rw [q]; exact congrArg Prod.fst f1
      show 0 ≤ σ1 41 x ∧ σ1 41 x ≤ 60
      rw [this]; exact zk
    · have : σ1 41 x = σ 41 x := congrArg Prod.fst (f2 x hx q)
      show 0 ≤ σ1 41 x ∧ σ1 41 x ≤ 60
      rw [this]; exact hz.1 x hx
  · show (0 ≤ σ1 46 x ∧ σ1 46 x ≤ 60) ∧ 0 ≤ σ1 48 x ∧ σ1 48 x ≤ 60
    rw [o46, o48]; exact hz.2 x hx
