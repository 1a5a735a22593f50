theorem r_D {e : ho_E} {rest : ho_Z} {v : List Int} {σ : ho_S} {K : List Int → ho_S → Prop} {R : ho_K} {X : ho_X} (val : Int) (he : ∀ K' : ho_K, K' val σ → e v σ K' X) (h : rest (v ++ [val]) σ K R X) : zS (zD e) rest v σ K R X := he _ h
theorem r_or {i : Nat} {e : ho_E} {rest : ho_Z} {v : List Int} {σ : ho_S} {K : List Int → ho_S → Prop} {R : ho_K} {X : ho_X} (val : Int) (he : ∀ K' : ho_K, K' val σ → e v σ K' X) (h : rest (v.set i (ho_oor (v.getD i 0) val)) σ K R X) : zS (zL i (eB ho_oor (eV i) e)) rest v σ K R X := he _ h
theorem r_orS {i : Nat} {e : ho_E} {rest : ho_Z} {v : List Int} {σ : ho_S} {K : List Int → ho_S → Prop} {R : ho_K} {X : ho_X} (val : Int) (P : ho_S → Prop) (he : ∀ K' : ho_K, (∀ σ', P σ' → K' val σ') → e v σ K' X) (h : ∀ σ', P σ' → rest (v.set i (ho_oor (v.getD i 0) val)) σ' K R X) : zS (zL i (eB ho_oor (eV i) e)) rest v σ K R X := he _ h
theorem bvT {b : Bool} {x : Int} {K : ho_K} {σ : ho_S} (h : K (bv b x) σ) (hb : b = true) : K x σ := by rw [hb] at h; exact h
theorem bvF {b : Bool} {x : Int} {K : ho_K} {σ : ho_S} (h : K (bv b x) σ) (hb : b = false) : K 0 σ := by rw [hb] at h; exact h
theorem sh0 : ho_oshl 1 0 = 1 := by decide +kernel
theorem sh1 : ho_oshl 1 1 = 2 := by decide +kernel
theorem sh2 : ho_oshl 1 2 = 4 := by decide +kernel
theorem sh3 : ho_oshl 1 3 = 8 := by decide +kernel
theorem sh4 : ho_oshl 1 4 = 16 := by decide +kernel
theorem sh5 : ho_oshl 1 5 = 32 := by decide +kernel
theorem sh6 : ho_oshl 1 6 = 64 := by decide +kernel
theorem sh7 : ho_oshl 1 7 = 128 := by decide +kernel
def TM (st ln : Nat → Int) (M N : Nat) : Prop := ∀ k, k < M → 0 ≤ ln k ∧ -1 ≤ st k ∧ st k + ln k ≤ N ∧ (st k = -1 ↔ ln k = 0)
theorem sp_isOutdated {t n : Nat} {T : Nat → Int} {σ : ho_S} {Q : ho_K} {X : ho_X} (ht : t < 48) (hT : TXT σ t n T) : mX6_isOutdated [0, (t : Int)] σ Q X ↔ Q (bI (σ 28 t ≠ 0 ∧ 0 < n)) σ := by
  simp only [mX6_isOutdated, fX6_isOutdated, u_eC, u_eV, u_eF, u_eR, u_eI, u_eL, u_eB, u_eD, u_eM, u_eU, u_aN, u_aC, u_eK, u_eT, u_cLt, u_cLe, u_cGt, u_cGe, u_cEq, u_cNe, u_cAnd, u_cOr, u_cNot, u_zN, u_zS, u_zD, u_zL, u_zI, u_zB, u_zP, u_zF, u_zA, u_zU, u_zC, u_zR, u_zRZ, u_zRC, u_zRV, u_zT, u_zE, u_zK, u_zY, ho_nid, List.getD_cons_zero, List.getD_cons_succ, List.set_cons_zero, List.set_cons_succ, List.cons_append, List.nil_append, List.take_succ_cons, List.take_zero, Int.reduceToNat, Int.toNat_natCast, nN_0, nN_1, nN_2, nN_3, nN_4, nN_5, nN_6, nN_7, nN_8, nN_9, nN_10, nN_11, nN_12, nN_13, nN_14, nN_15, nN_16, nN_17, nN_18, nN_19, nN_20, nN_21, nN_22, nN_23, nN_24, nN_25, nN_26, nN_27, nN_28, nN_29, nN_30, nN_31, nN_32, nN_33, nN_34, nN_35, nN_36, nN_37, nN_38, nN_39, nN_40, nN_41, nN_42, nN_43, nN_44, nN_45, nN_46, nN_47, nN_48, nN_49, nN_50, nN_51, nN_52, nN_53, nN_54, nR_0_0, nR_0_1, nR_0_2, nR_0_3, nR_0_4, nR_0_5, nR_0_6, nR_0_7, nR_0_8, nR_0_9, nR_0_10, nR_1_0, nR_1_1, nR_1_2, nR_1_3, nR_1_4, nR_2_0, nR_2_1, nR_2_2, nR_2_3, nR_2_4, nR_3_0, nR_3_1, nR_4_2, nR_5_2, nR_6_0, nR_6_1, nR_6_2, nR_7_0, nR_30_2, nR_30_3, nR_30_4, nR_30_6, nR_30_7, nR_30_9, nR_30_10, nR_30_11, nR_30_12, nR_30_13, nR_30_14, nR_30_15, nR_30_16, nR_30_18, nR_30_19, nR_30_20, nR_30_21, nR_30_22, nR_30_23, nR_30_24, nR_30_28, nR_30_29, nR_30_31, n00, n01, true_or, or_true, true_and, sp_isBehind ht, sp_sizeT (show t < 80 by omega) hT, bI_ne, bI_eq]
  by_cases z : σ 28 t ≠ 0
  · by_cases y : 0 < n
    · rw [bI_t ⟨z, y⟩]
      exact ⟨fun w => (w.1 z).1 (by omega), fun w => ⟨fun _ => ⟨fun _ => w, fun q => absurd q (by omega)⟩, fun q => absurd z q⟩⟩
    · rw [bI_f (fun w => y w.2)]
      exact ⟨fun w => (w.1 z).2 (by omega), fun w => ⟨fun _ => ⟨fun q => absurd q (by omega), fun _ => w⟩, fun q => absurd z q⟩⟩
  · rw [bI_f (fun w => z w.1)]
    exact ⟨fun w => w.2 z, fun w => ⟨fun q => absurd q z, fun _ => w⟩⟩
theorem sp_brokenRules {T F : Nat → Int} {stale : Bool} {n t c M N : Nat} {σ : ho_S} {Q : ho_K} {X : ho_X} (hc : c < M) (hM : σ 0 11 = (M : Int)) (hM1 : M ≤ 16) (ht : t < 3) (hT : TXT σ (3 * c + t) n T) (hF : FR (σ 8) F N) (hN : N ≤ 4800) (hTM : TM (σ 13) (σ 14) M N) (hsp : 0 ≤ σ 0 13 ∧ σ 0 13 ≤ 50) (hst : stale = true ↔ (σ 28 (3 * c + t) ≠ 0 ∧ 0 < n))
    (h : ∀ σ', sm pLy σ σ' → Q (RB (σ 13) (σ 14) (σ 26) F stale T n (σ 0 12) (σ 0 13) M c) σ') : mX6_brokenRules [0, (c : Int), (t : Int)] σ Q X := by
  have hn := hT.2.1
  have tc := hTM c hc
  unfold mX6_brokenRules fX6_brokenRules
  refine r_D ((3 * c + t : Nat) : Int) (fun K' hK' => ?_) ?_
  · simp only [u_eC, u_eV, u_eF, u_eR, u_eI, u_eL, u_eB, u_eD, u_eM, u_eU, u_aN, u_aC, u_eK, u_eT, u_cLt, u_cLe, u_cGt, u_cGe, u_cEq, u_cNe, u_cAnd, u_cOr, u_cNot, u_zN, u_zS, u_zD, u_zL, u_zI, u_zB, u_zP, u_zF, u_zA, u_zU, u_zC, u_zR, u_zRZ, u_zRC, u_zRV, u_zT, u_zE, u_zK, u_zY, ho_nid, List.getD_cons_zero, List.getD_cons_succ, List.set_cons_zero, List.set_cons_succ, List.cons_append, List.nil_append, List.take_succ_cons, List.take_zero, Int.reduceToNat, Int.toNat_natCast, nN_0, nN_1, nN_2, nN_3, nN_4, nN_5, nN_6, nN_7, nN_8, nN_9, nN_10, nN_11, nN_12, nN_13, nN_14, nN_15, nN_16, nN_17, nN_18, nN_19, nN_20, nN_21, nN_22, nN_23, nN_24, nN_25, nN_26, nN_27, nN_28, nN_29, nN_30, nN_31, nN_32, nN_33, nN_34, nN_35, nN_36, nN_37, nN_38, nN_39, nN_40, nN_41, nN_42, nN_43, nN_44, nN_45, nN_46, nN_47, nN_48, nN_49, nN_50, nN_51, nN_52, nN_53, nN_54, nR_0_0, nR_0_1, nR_0_2, nR_0_3, nR_0_4, nR_0_5, nR_0_6, nR_0_7, nR_0_8, nR_0_9, nR_0_10, nR_1_0, nR_1_1, nR_1_2, nR_1_3, nR_1_4, nR_2_0, nR_2_1, nR_2_2, nR_2_3, nR_2_4, nR_3_0, nR_3_1, nR_4_2, nR_5_2, nR_6_0, nR_6_1, nR_6_2, nR_7_0, nR_30_2, nR_30_3, nR_30_4, nR_30_6, nR_30_7, nR_30_9, nR_30_10, nR_30_11, nR_30_12, nR_30_13, nR_30_14, nR_30_15, nR_30_16, nR_30_18, nR_30_19, nR_30_20, nR_30_21, nR_30_22, nR_30_23, nR_30_24, nR_30_28, nR_30_29, nR_30_31, sp_textOf]
    rw [o3c (by omega) (by omega)]
    exact hK'
  refine r_D (if 0 < σ 14 c then 1 else 0) (fun K' hK' => ?_) ?_
  · simp only [u_eC, u_eV, u_eF, u_eR, u_eI, u_eL, u_eB, u_eD, u_eM, u_eU, u_aN, u_aC, u_eK, u_eT, u_cLt, u_cLe, u_cGt, u_cGe, u_cEq, u_cNe, u_cAnd, u_cOr, u_cNot, u_zN, u_zS, u_zD, u_zL, u_zI, u_zB, u_zP, u_zF, u_zA, u_zU, u_zC, u_zR, u_zRZ, u_zRC, u_zRV, u_zT, u_zE, u_zK, u_zY, ho_nid, List.getD_cons_zero, List.getD_cons_succ, List.set_cons_zero, List.set_cons_succ, List.cons_append, List.nil_append, List.take_succ_cons, List.take_zero, Int.reduceToNat, Int.toNat_natCast, nN_0, nN_1, nN_2, nN_3, nN_4, nN_5, nN_6, nN_7, nN_8, nN_9, nN_10, nN_11, nN_12, nN_13, nN_14, nN_15, nN_16, nN_17, nN_18, nN_19, nN_20, nN_21, nN_22, nN_23, nN_24, nN_25, nN_26, nN_27, nN_28, nN_29, nN_30, nN_31, nN_32, nN_33, nN_34, nN_35, nN_36, nN_37, nN_38, nN_39, nN_40, nN_41, nN_42, nN_43, nN_44, nN_45, nN_46, nN_47, nN_48, nN_49, nN_50, nN_51, nN_52, nN_53, nN_54, nR_0_0, nR_0_1, nR_0_2, nR_0_3, nR_0_4, nR_0_5, nR_0_6, nR_0_7, nR_0_8, nR_0_9, nR_0_10, nR_1_0, nR_1_1, nR_1_2, nR_1_3, nR_1_4, nR_2_0, nR_2_1, nR_2_2, nR_2_3, nR_2_4, nR_3_0, nR_3_1, nR_4_2, nR_5_2, nR_6_0, nR_6_1, nR_6_2, nR_7_0, nR_30_2, nR_30_3, nR_30_4, nR_30_6, nR_30_7, nR_30_9, nR_30_10, nR_30_11, nR_30_12, nR_30_13, nR_30_14, nR_30_15, nR_30_16, nR_30_18, nR_30_19, nR_30_20, nR_30_21, nR_30_22, nR_30_23, nR_30_24, nR_30_28, nR_30_29, nR_30_31, sp_isIn]
    rw [gi14 (by omega)]
    exact hK'
  show mX1_divide [6, 3, ((3 * c + t : Nat) : Int), σ 0 12] σ (fun _ σ1 => _) X
  refine sp_divide (by omega) hT (fun σ1 s1 d3 d4 _ => ?_)
  have hT1 := TXT_sm hT s1 (fun _ => rfl) (fun _ => rfl)
  have e13 : σ1 13 = σ 13 := sm_fn s1 13 (fun _ => rfl)
  have e14 : σ1 14 = σ 14 := sm_fn s1 14 (fun _ => rfl)
  have e26 : σ1 26 = σ 26 := sm_fn s1 26 (fun _ => rfl)
  have e28 : σ1 28 = σ 28 := sm_fn s1 28 (fun _ => rfl)
  have e8 : σ1 8 = σ 8 := sm_fn s1 8 (fun _ => rfl)
  have e12 : σ1 0 12 = σ 0 12 := s1 0 12 rfl
  have e113 : σ1 0 13 = σ 0 13 := s1 0 13 rfl
  have e11 : σ1 0 11 = (M : Int) := (s1 0 11 rfl).trans hM
  have z1 : ((0 : Int) ≠ 0) = False := by simp
  have z2 : ((1 : Int) ≠ 0) = True := by simp
  have z3 : ((0 : Int) = 0) = True := by simp
  have z4 : ((1 : Int) = 0) = False := by simp
  refine r_D (bv (decide (n = 0)) 1) (fun K' hK' => ?_) ?_
  · simp only [u_eC, u_eV, u_eF, u_eR, u_eI, u_eL, u_eB, u_eD, u_eM, u_eU, u_aN, u_aC, u_eK, u_eT, u_cLt, u_cLe, u_cGt, u_cGe, u_cEq, u_cNe, u_cAnd, u_cOr, u_cNot, u_zN, u_zS, u_zD, u_zL, u_zI, u_zB, u_zP, u_zF, u_zA, u_zU, u_zC, u_zR, u_zRZ, u_zRC, u_zRV, u_zT, u_zE, u_zK, u_zY, ho_nid, List.getD_cons_zero, List.getD_cons_succ, List.set_cons_zero, List.set_cons_succ, List.cons_append, List.nil_append, List.take_succ_cons, List.take_zero, Int.reduceToNat, Int.toNat_natCast, nN_0, nN_1, nN_2, nN_3, nN_4, nN_5, nN_6, nN_7, nN_8, nN_9, nN_10, nN_11, nN_12, nN_13, nN_14, nN_15, nN_16, nN_17, nN_18, nN_19, nN_20, nN_21, nN_22, nN_23, nN_24, nN_25, nN_26, nN_27, nN_28, nN_29, nN_30, nN_31, nN_32, nN_33, nN_34, nN_35, nN_36, nN_37, nN_38, nN_39, nN_40, nN_41, nN_42, nN_43, nN_44, nN_45, nN_46, nN_47, nN_48, nN_49, nN_50, nN_51, nN_52, nN_53, nN_54, nR_0_0, nR_0_1, nR_0_2, nR_0_3, nR_0_4, nR_0_5, nR_0_6, nR_0_7, nR_0_8, nR_0_9, nR_0_10, nR_1_0, nR_1_1, nR_1_2, nR_1_3, nR_1_4, nR_2_0, nR_2_1, nR_2_2, nR_2_3, nR_2_4, nR_3_0, nR_3_1, nR_4_2, nR_5_2, nR_6_0, nR_6_1, nR_6_2, nR_7_0, nR_30_2, nR_30_3, nR_30_4, nR_30_6, nR_30_7, nR_30_9, nR_30_10, nR_30_11, nR_30_12, nR_30_13, nR_30_14, nR_30_15, nR_30_16, nR_30_18, nR_30_19, nR_30_20, nR_30_21, nR_30_22, nR_30_23, nR_30_24, nR_30_28, nR_30_29, nR_30_31, sp_sizeT (show 3 * c + t < 80 by omega) hT1, sp_bit, sh0]
    exact ⟨fun z => bvT hK' (decide_eq_true (by omega)), fun z => bvF hK' (decide_eq_false (by omega))⟩
  refine r_or (bv (decide (2 < (rws T (σ 0 12) n).length) || decide (σ 0 12 < wid T (rws T (σ 0 12) n))) 2) (fun K' hK' => ?_) ?_
  · simp only [u_eC, u_eV, u_eF, u_eR, u_eI, u_eL, u_eB, u_eD, u_eM, u_eU, u_aN, u_aC, u_eK, u_eT, u_cLt, u_cLe, u_cGt, u_cGe, u_cEq, u_cNe, u_cAnd, u_cOr, u_cNot, u_zN, u_zS, u_zD, u_zL, u_zI, u_zB, u_zP, u_zF, u_zA, u_zU, u_zC, u_zR, u_zRZ, u_zRC, u_zRV, u_zT, u_zE, u_zK, u_zY, ho_nid, List.getD_cons_zero, List.getD_cons_succ, List.set_cons_zero, List.set_cons_succ, List.cons_append, List.nil_append, List.take_succ_cons, List.take_zero, Int.reduceToNat, Int.toNat_natCast, nN_0, nN_1, nN_2, nN_3, nN_4, nN_5, nN_6, nN_7, nN_8, nN_9, nN_10, nN_11, nN_12, nN_13, nN_14, nN_15, nN_16, nN_17, nN_18, nN_19, nN_20, nN_21, nN_22, nN_23, nN_24, nN_25, nN_26, nN_27, nN_28, nN_29, nN_30, nN_31, nN_32, nN_33, nN_34, nN_35, nN_36, nN_37, nN_38, nN_39, nN_40, nN_41, nN_42, nN_43, nN_44, nN_45, nN_46, nN_47, nN_48, nN_49, nN_50, nN_51, nN_52, nN_53, nN_54, nR_0_0, nR_0_1, nR_0_2, nR_0_3, nR_0_4, nR_0_5, nR_0_6, nR_0_7, nR_0_8, nR_0_9, nR_0_10, nR_1_0, nR_1_1, nR_1_2, nR_1_3, nR_1_4, nR_2_0, nR_2_1, nR_2_2, nR_2_3, nR_2_4, nR_3_0, nR_3_1, nR_4_2, nR_5_2, nR_6_0, nR_6_1, nR_6_2, nR_7_0, nR_30_2, nR_30_3, nR_30_4, nR_30_6, nR_30_7, nR_30_9, nR_30_10, nR_30_11, nR_30_12, nR_30_13, nR_30_14, nR_30_15, nR_30_16, nR_30_18, nR_30_19, nR_30_20, nR_30_21, nR_30_22, nR_30_23, nR_30_24, nR_30_28, nR_30_29, nR_30_31, mX1_count, fX1_count, mX1_widest, fX1_widest, sp_bit, sh1, (show ho_R 0 5 = 6 from rfl), d3, d4, e12]
    refine ⟨fun z => bvT hK' ?_, fun z => ⟨fun y => bvT hK' ?_, fun y => bvF hK' ?_⟩⟩
    · rw [decide_eq_true (show 2 < (rws T (σ 0 12) n).length by omega)]; rfl
    · rw [decide_eq_true y]; simp
    · rw [decide_eq_false (show ¬ 2 < (rws T (σ 0 12) n).length by omega), decide_eq_false (Int.not_lt.mpr y)]; rfl
  refine r_or (bv (decide (0 < σ 14 c) && decide (σ 0 13 * σ 14 c < 25 * pre T n)) 4) (fun K' hK' => ?_) ?_
  · simp only [u_eC, u_eV, u_eF, u_eR, u_eI, u_eL, u_eB, u_eD, u_eM, u_eU, u_aN, u_aC, u_eK, u_eT, u_cLt, u_cLe, u_cGt, u_cGe, u_cEq, u_cNe, u_cAnd, u_cOr, u_cNot, u_zN, u_zS, u_zD, u_zL, u_zI, u_zB, u_zP, u_zF, u_zA, u_zU, u_zC, u_zR, u_zRZ, u_zRC, u_zRV, u_zT, u_zE, u_zK, u_zY, ho_nid, List.getD_cons_zero, List.getD_cons_succ, List.set_cons_zero, List.set_cons_succ, List.cons_append, List.nil_append, List.take_succ_cons, List.take_zero, Int.reduceToNat, Int.toNat_natCast, nN_0, nN_1, nN_2, nN_3, nN_4, nN_5, nN_6, nN_7, nN_8, nN_9, nN_10, nN_11, nN_12, nN_13, nN_14, nN_15, nN_16, nN_17, nN_18, nN_19, nN_20, nN_21, nN_22, nN_23, nN_24, nN_25, nN_26, nN_27, nN_28, nN_29, nN_30, nN_31, nN_32, nN_33, nN_34, nN_35, nN_36, nN_37, nN_38, nN_39, nN_40, nN_41, nN_42, nN_43, nN_44, nN_45, nN_46, nN_47, nN_48, nN_49, nN_50, nN_51, nN_52, nN_53, nN_54, nR_0_0, nR_0_1, nR_0_2, nR_0_3, nR_0_4, nR_0_5, nR_0_6, nR_0_7, nR_0_8, nR_0_9, nR_0_10, nR_1_0, nR_1_1, nR_1_2, nR_1_3, nR_1_4, nR_2_0, nR_2_1, nR_2_2, nR_2_3, nR_2_4, nR_3_0, nR_3_1, nR_4_2, nR_5_2, nR_6_0, nR_6_1, nR_6_2, nR_7_0, nR_30_2, nR_30_3, nR_30_4, nR_30_6, nR_30_7, nR_30_9, nR_30_10, nR_30_11, nR_30_12, nR_30_13, nR_30_14, nR_30_15, nR_30_16, nR_30_18, nR_30_19, nR_30_20, nR_30_21, nR_30_22, nR_30_23, nR_30_24, nR_30_28, nR_30_29, nR_30_31, sp_bit, sh2, sp_tlength, ite01, ite01e]
    refine ⟨fun z => ?_, fun z => bvF hK' (by rw [decide_eq_false z]; rfl)⟩
    refine sp_textWidth (by omega) hT1.1 hn ?_
    rw [hT1.2.2, gi14 (by omega), e14, e113]
    have p9 := pre_range T n
    have m1 : 0 ≤ σ 0 13 * σ 14 c := Int.mul_nonneg hsp.1 tc.1
    have m2 : σ 0 13 * σ 14 c ≤ 50 * 4800 := Int.mul_le_mul hsp.2 (by omega) tc.1 (by omega)
    rw [wmu (by omega) (by omega), wmu (by omega) (by omega)]
    exact ⟨fun y => bvT hK' (by rw [decide_eq_true z, decide_eq_true y]; rfl), fun y => bvF hK' (by rw [decide_eq_false (Int.not_lt.mpr y)]; simp)⟩
  refine r_or (bv (decide (0 < σ 14 c) && anyb (hangP F (σ 13 c).toNat (σ 14 c).toNat) ((σ 14 c).toNat - 1)) 8) (fun K' hK' => ?_) ?_
  · simp only [u_eC, u_eV, u_eF, u_eR, u_eI, u_eL, u_eB, u_eD, u_eM, u_eU, u_aN, u_aC, u_eK, u_eT, u_cLt, u_cLe, u_cGt, u_cGe, u_cEq, u_cNe, u_cAnd, u_cOr, u_cNot, u_zN, u_zS, u_zD, u_zL, u_zI, u_zB, u_zP, u_zF, u_zA, u_zU, u_zC, u_zR, u_zRZ, u_zRC, u_zRV, u_zT, u_zE, u_zK, u_zY, ho_nid, List.getD_cons_zero, List.getD_cons_succ, List.set_cons_zero, List.set_cons_succ, List.cons_append, List.nil_append, List.take_succ_cons, List.take_zero, Int.reduceToNat, Int.toNat_natCast, nN_0, nN_1, nN_2, nN_3, nN_4, nN_5, nN_6, nN_7, nN_8, nN_9, nN_10, nN_11, nN_12, nN_13, nN_14, nN_15, nN_16, nN_17, nN_18, nN_19, nN_20, nN_21, nN_22, nN_23, nN_24, nN_25, nN_26, nN_27, nN_28, nN_29, nN_30, nN_31, nN_32, nN_33, nN_34, nN_35, nN_36, nN_37, nN_38, nN_39, nN_40, nN_41, nN_42, nN_43, nN_44, nN_45, nN_46, nN_47, nN_48, nN_49, nN_50, nN_51, nN_52, nN_53, nN_54, nR_0_0, nR_0_1, nR_0_2, nR_0_3, nR_0_4, nR_0_5, nR_0_6, nR_0_7, nR_0_8, nR_0_9, nR_0_10, nR_1_0, nR_1_1, nR_1_2, nR_1_3, nR_1_4, nR_2_0, nR_2_1, nR_2_2, nR_2_3, nR_2_4, nR_3_0, nR_3_1, nR_4_2, nR_5_2, nR_6_0, nR_6_1, nR_6_2, nR_7_0, nR_30_2, nR_30_3, nR_30_4, nR_30_6, nR_30_7, nR_30_9, nR_30_10, nR_30_11, nR_30_12, nR_30_13, nR_30_14, nR_30_15, nR_30_16, nR_30_18, nR_30_19, nR_30_20, nR_30_21, nR_30_22, nR_30_23, nR_30_24, nR_30_28, nR_30_29, nR_30_31, sp_bit, sh3, ite01, ite01e]
    refine ⟨fun z => ?_, fun z => bvF hK' (by rw [decide_eq_false z]; rfl)⟩
    refine sp_changs (F := F) (N := N) (s := (σ 13 c).toNat) (l := (σ 14 c).toNat) (by omega) (by rw [e8]; exact hF) hN (by rw [e13]; omega) (by rw [e14]; omega) (by omega) ?_
    simp only [ite01, ite01e]
    exact ⟨fun y => bvT hK' (by rw [decide_eq_true z, y]; rfl), fun y => bvF hK' (by rw [Bool.not_eq_true] at y; rw [y]; simp)⟩
  refine r_or (bv (decide (0 < σ 14 c) && anyb (closeP (σ 13) (σ 14) (σ 26) c) M) 16) (fun K' hK' => ?_) ?_
  · simp only [u_eC, u_eV, u_eF, u_eR, u_eI, u_eL, u_eB, u_eD, u_eM, u_eU, u_aN, u_aC, u_eK, u_eT, u_cLt, u_cLe, u_cGt, u_cGe, u_cEq, u_cNe, u_cAnd, u_cOr, u_cNot, u_zN, u_zS, u_zD, u_zL, u_zI, u_zB, u_zP, u_zF, u_zA, u_zU, u_zC, u_zR, u_zRZ, u_zRC, u_zRV, u_zT, u_zE, u_zK, u_zY, ho_nid, List.getD_cons_zero, List.getD_cons_succ, List.set_cons_zero, List.set_cons_succ, List.cons_append, List.nil_append, List.take_succ_cons, List.take_zero, Int.reduceToNat, Int.toNat_natCast, nN_0, nN_1, nN_2, nN_3, nN_4, nN_5, nN_6, nN_7, nN_8, nN_9, nN_10, nN_11, nN_12, nN_13, nN_14, nN_15, nN_16, nN_17, nN_18, nN_19, nN_20, nN_21, nN_22, nN_23, nN_24, nN_25, nN_26, nN_27, nN_28, nN_29, nN_30, nN_31, nN_32, nN_33, nN_34, nN_35, nN_36, nN_37, nN_38, nN_39, nN_40, nN_41, nN_42, nN_43, nN_44, nN_45, nN_46, nN_47, nN_48, nN_49, nN_50, nN_51, nN_52, nN_53, nN_54, nR_0_0, nR_0_1, nR_0_2, nR_0_3, nR_0_4, nR_0_5, nR_0_6, nR_0_7, nR_0_8, nR_0_9, nR_0_10, nR_1_0, nR_1_1, nR_1_2, nR_1_3, nR_1_4, nR_2_0, nR_2_1, nR_2_2, nR_2_3, nR_2_4, nR_3_0, nR_3_1, nR_4_2, nR_5_2, nR_6_0, nR_6_1, nR_6_2, nR_7_0, nR_30_2, nR_30_3, nR_30_4, nR_30_6, nR_30_7, nR_30_9, nR_30_10, nR_30_11, nR_30_12, nR_30_13, nR_30_14, nR_30_15, nR_30_16, nR_30_18, nR_30_19, nR_30_20, nR_30_21, nR_30_22, nR_30_23, nR_30_24, nR_30_28, nR_30_29, nR_30_31, sp_bit, sh4, ite01, ite01e]
    refine ⟨fun z => ?_, fun z => bvF hK' (by rw [decide_eq_false z]; rfl)⟩
    refine sp_cisClose (N := N) hc e11 hM1 hN (by rw [e13, e14]; exact fun k hk => ⟨(hTM k hk).1, (hTM k hk).2.1, (hTM k hk).2.2.1⟩) ?_
    rw [e13, e14, e26]
    simp only [ite01, ite01e]
    exact ⟨fun y => bvT hK' (by rw [decide_eq_true z, y]; rfl), fun y => bvF hK' (by rw [Bool.not_eq_true] at y; rw [y]; simp)⟩
  refine r_or (bv stale 32) (fun K' hK' => ?_) ?_
  · simp only [u_eC, u_eV, u_eF, u_eR, u_eI, u_eL, u_eB, u_eD, u_eM, u_eU, u_aN, u_aC, u_eK, u_eT, u_cLt, u_cLe, u_cGt, u_cGe, u_cEq, u_cNe, u_cAnd, u_cOr, u_cNot, u_zN, u_zS, u_zD, u_zL, u_zI, u_zB, u_zP, u_zF, u_zA, u_zU, u_zC, u_zR, u_zRZ, u_zRC, u_zRV, u_zT, u_zE, u_zK, u_zY, ho_nid, List.getD_cons_zero, List.getD_cons_succ, List.set_cons_zero, List.set_cons_succ, List.cons_append, List.nil_append, List.take_succ_cons, List.take_zero, Int.reduceToNat, Int.toNat_natCast, nN_0, nN_1, nN_2, nN_3, nN_4, nN_5, nN_6, nN_7, nN_8, nN_9, nN_10, nN_11, nN_12, nN_13, nN_14, nN_15, nN_16, nN_17, nN_18, nN_19, nN_20, nN_21, nN_22, nN_23, nN_24, nN_25, nN_26, nN_27, nN_28, nN_29, nN_30, nN_31, nN_32, nN_33, nN_34, nN_35, nN_36, nN_37, nN_38, nN_39, nN_40, nN_41, nN_42, nN_43, nN_44, nN_45, nN_46, nN_47, nN_48, nN_49, nN_50, nN_51, nN_52, nN_53, nN_54, nR_0_0, nR_0_1, nR_0_2, nR_0_3, nR_0_4, nR_0_5, nR_0_6, nR_0_7, nR_0_8, nR_0_9, nR_0_10, nR_1_0, nR_1_1, nR_1_2, nR_1_3, nR_1_4, nR_2_0, nR_2_1, nR_2_2, nR_2_3, nR_2_4, nR_3_0, nR_3_1, nR_4_2, nR_5_2, nR_6_0, nR_6_1, nR_6_2, nR_7_0, nR_30_2, nR_30_3, nR_30_4, nR_30_6, nR_30_7, nR_30_9, nR_30_10, nR_30_11, nR_30_12, nR_30_13, nR_30_14, nR_30_15, nR_30_16, nR_30_18, nR_30_19, nR_30_20, nR_30_21, nR_30_22, nR_30_23, nR_30_24, nR_30_28, nR_30_29, nR_30_31, sp_bit, sh5, sp_isOutdated (show 3 * c + t < 48 by omega) hT1, bI_ne, bI_eq, e28]
    exact ⟨fun z => bvT hK' (hst.mpr z), fun z => bvF hK' (by
      cases q : stale
      · rfl
      · exact absurd (hst.mp q) z)⟩
  refine r_or (bv (!decide (0 < σ 14 c)) 64) (fun K' hK' => ?_) ?_
  · simp only [u_eC, u_eV, u_eF, u_eR, u_eI, u_eL, u_eB, u_eD, u_eM, u_eU, u_aN, u_aC, u_eK, u_eT, u_cLt, u_cLe, u_cGt, u_cGe, u_cEq, u_cNe, u_cAnd, u_cOr, u_cNot, u_zN, u_zS, u_zD, u_zL, u_zI, u_zB, u_zP, u_zF, u_zA, u_zU, u_zC, u_zR, u_zRZ, u_zRC, u_zRV, u_zT, u_zE, u_zK, u_zY, ho_nid, List.getD_cons_zero, List.getD_cons_succ, List.set_cons_zero, List.set_cons_succ, List.cons_append, List.nil_append, List.take_succ_cons, List.take_zero, Int.reduceToNat, Int.toNat_natCast, nN_0, nN_1, nN_2, nN_3, nN_4, nN_5, nN_6, nN_7, nN_8, nN_9, nN_10, nN_11, nN_12, nN_13, nN_14, nN_15, nN_16, nN_17, nN_18, nN_19, nN_20, nN_21, nN_22, nN_23, nN_24, nN_25, nN_26, nN_27, nN_28, nN_29, nN_30, nN_31, nN_32, nN_33, nN_34, nN_35, nN_36, nN_37, nN_38, nN_39, nN_40, nN_41, nN_42, nN_43, nN_44, nN_45, nN_46, nN_47, nN_48, nN_49, nN_50, nN_51, nN_52, nN_53, nN_54, nR_0_0, nR_0_1, nR_0_2, nR_0_3, nR_0_4, nR_0_5, nR_0_6, nR_0_7, nR_0_8, nR_0_9, nR_0_10, nR_1_0, nR_1_1, nR_1_2, nR_1_3, nR_1_4, nR_2_0, nR_2_1, nR_2_2, nR_2_3, nR_2_4, nR_3_0, nR_3_1, nR_4_2, nR_5_2, nR_6_0, nR_6_1, nR_6_2, nR_7_0, nR_30_2, nR_30_3, nR_30_4, nR_30_6, nR_30_7, nR_30_9, nR_30_10, nR_30_11, nR_30_12, nR_30_13, nR_30_14, nR_30_15, nR_30_16, nR_30_18, nR_30_19, nR_30_20, nR_30_21, nR_30_22, nR_30_23, nR_30_24, nR_30_28, nR_30_29, nR_30_31, sp_bit, sh6, ite01, ite01e]
    exact ⟨fun z => bvF hK' (by rw [decide_eq_true z]; rfl), fun z => bvT hK' (by rw [decide_eq_false z]; rfl)⟩
  refine r_or (bv (decide (σ 26 c = 1) && (decide (0 < n) && !voB T n)) 128) (fun K' hK' => ?_) ?_
  · simp only [u_eC, u_eV, u_eF, u_eR, u_eI, u_eL, u_eB, u_eD, u_eM, u_eU, u_aN, u_aC, u_eK, u_eT, u_cLt, u_cLe, u_cGt, u_cGe, u_cEq, u_cNe, u_cAnd, u_cOr, u_cNot, u_zN, u_zS, u_zD, u_zL, u_zI, u_zB, u_zP, u_zF, u_zA, u_zU, u_zC, u_zR, u_zRZ, u_zRC, u_zRV, u_zT, u_zE, u_zK, u_zY, ho_nid, List.getD_cons_zero, List.getD_cons_succ, List.set_cons_zero, List.set_cons_succ, List.cons_append, List.nil_append, List.take_succ_cons, List.take_zero, Int.reduceToNat, Int.toNat_natCast, nN_0, nN_1, nN_2, nN_3, nN_4, nN_5, nN_6, nN_7, nN_8, nN_9, nN_10, nN_11, nN_12, nN_13, nN_14, nN_15, nN_16, nN_17, nN_18, nN_19, nN_20, nN_21, nN_22, nN_23, nN_24, nN_25, nN_26, nN_27, nN_28, nN_29, nN_30, nN_31, nN_32, nN_33, nN_34, nN_35, nN_36, nN_37, nN_38, nN_39, nN_40, nN_41, nN_42, nN_43, nN_44, nN_45, nN_46, nN_47, nN_48, nN_49, nN_50, nN_51, nN_52, nN_53, nN_54, nR_0_0, nR_0_1, nR_0_2, nR_0_3, nR_0_4, nR_0_5, nR_0_6, nR_0_7, nR_0_8, nR_0_9, nR_0_10, nR_1_0, nR_1_1, nR_1_2, nR_1_3, nR_1_4, nR_2_0, nR_2_1, nR_2_2, nR_2_3, nR_2_4, nR_3_0, nR_3_1, nR_4_2, nR_5_2, nR_6_0, nR_6_1, nR_6_2, nR_7_0, nR_30_2, nR_30_3, nR_30_4, nR_30_6, nR_30_7, nR_30_9, nR_30_10, nR_30_11, nR_30_12, nR_30_13, nR_30_14, nR_30_15, nR_30_16, nR_30_18, nR_30_19, nR_30_20, nR_30_21, nR_30_22, nR_30_23, nR_30_24, nR_30_28, nR_30_29, nR_30_31, sp_bit, sh7, sp_item]
    rw [gi26 (by omega), e26]
    refine ⟨fun z => ?_, fun z => bvF hK' (by rw [decide_eq_false z]; rfl)⟩
    refine sp_lacks (by omega) hT1 ?_
    simp only [ite01, ite01e]
    exact ⟨fun y => bvT hK' (by rw [decide_eq_true z, y]; rfl), fun y => bvF hK' (by rw [Bool.not_eq_true] at y; rw [y]; simp)⟩
  have fin := h σ1 s1
  unfold RB BS at fin
  simp only [u_eC, u_eV, u_eF, u_eR, u_eI, u_eL, u_eB, u_eD, u_eM, u_eU, u_aN, u_aC, u_eK, u_eT, u_cLt, u_cLe, u_cGt, u_cGe, u_cEq, u_cNe, u_cAnd, u_cOr, u_cNot, u_zN, u_zS, u_zD, u_zL, u_zI, u_zB, u_zP, u_zF, u_zA, u_zU, u_zC, u_zR, u_zRZ, u_zRC, u_zRV, u_zT, u_zE, u_zK, u_zY, ho_nid, List.getD_cons_zero, List.getD_cons_succ, List.set_cons_zero, List.set_cons_succ, List.cons_append, List.nil_append, List.take_succ_cons, List.take_zero, Int.reduceToNat, Int.toNat_natCast]
  exact fin
-- the model's
theorem rws_in {T : Nat → Int} {W : Int} {n : Nat} : ∀ p ∈ rws T W n, p.1 ≤ p.2 ∧ p.2 ≤ n := by
  have hp : ∀ a b, a ≤ b → ∀ p ∈ prt T W a b, p.1 ≤ p.2 ∧ p.2 ≤ b := by
    intro a b hab p hp
    unfold prt at hp
    have rg := spc_rg (T := T) (W := W) (a := a) (b := b)
    split at hp
    · rename_i c
      have c2 := c.2
      rcases List.mem_cons.mp hp with rfl | hp
      · dsimp only; omega
      · rcases List.mem_cons.mp hp with rfl | hp
        · dsimp only; omega
        · exact absurd hp List.not_mem_nil
    · rcases List.mem_cons.mp hp with rfl | hp
      · exact ⟨hab, Nat.le_refl _⟩
      · exact absurd hp List.not_mem_nil
  have ha : ∀ k, ∀ p ∈ (acc T W k).2, p.1 ≤ p.2 ∧ p.2 ≤ k := by
    intro k
    induction k with
    | zero => intro p hp; exact absurd hp List.not_mem_nil
    | succ k ih =>
      intro p h9
      by_cases c : T k = 10
      · rw [acc_y c] at h9
        rcases List.mem_append.mp h9 with g | g
        · have := ih p g; omega
        · have := hp _ _ (acc_rg k).1 p g; omega
      · rw [acc_n c] at h9
        have := ih p h9; omega
  intro p h9
  unfold rws at h9
  split at h9
  · exact absurd h9 List.not_mem_nil
  · rcases List.mem_append.mp h9 with g | g
    · exact ha n p g
    · exact hp _ _ (acc_rg n).1 p g
theorem sp_isWide {T : Nat → Int} {t n : Nat} {σ : ho_S} {Q : ho_K} {X : ho_X} (ht : t < 48) (hT : MTX σ t n T) (hW : 0 ≤ σ 30 25) (h : ∀ σ', sm pRo σ σ' → Q (bI (2 < (rws T (σ 30 25) n).length ∨ σ 30 25 < wid T (rws T (σ 30 25) n))) σ') : mX7_isWide [30, (t : Int)] σ Q X := by
  obtain ⟨W, hWd⟩ : ∃ W, W = σ 30 25 := ⟨_, rfl⟩
  rw [← hWd] at h hW
  simp only [mX7_isWide, fX7_isWide, u_eC, u_eV, u_eF, u_eR, u_eI, u_eL, u_eB, u_eD, u_eM, u_eU, u_aN, u_aC, u_eK, u_eT, u_cLt, u_cLe, u_cGt, u_cGe, u_cEq, u_cNe, u_cAnd, u_cOr, u_cNot, u_zN, u_zS, u_zD, u_zL, u_zI, u_zB, u_zP, u_zF, u_zA, u_zU, u_zC, u_zR, u_zRZ, u_zRC, u_zRV, u_zT, u_zE, u_zK, u_zY, ho_nid, List.getD_cons_zero, List.getD_cons_succ, List.set_cons_zero, List.set_cons_succ, List.cons_append, List.nil_append, List.take_succ_cons, List.take_zero, Int.reduceToNat, Int.toNat_natCast, nN_0, nN_1, nN_2, nN_3, nN_4, nN_5, nN_6, nN_7, nN_8, nN_9, nN_10, nN_11, nN_12, nN_13, nN_14, nN_15, nN_16, nN_17, nN_18, nN_19, nN_20, nN_21, nN_22, nN_23, nN_24, nN_25, nN_26, nN_27, nN_28, nN_29, nN_30, nN_31, nN_32, nN_33, nN_34, nN_35, nN_36, nN_37, nN_38, nN_39, nN_40, nN_41, nN_42, nN_43, nN_44, nN_45, nN_46, nN_47, nN_48, nN_49, nN_50, nN_51, nN_52, nN_53, nN_54, nR_0_0, nR_0_1, nR_0_2, nR_0_3, nR_0_4, nR_0_5, nR_0_6, nR_0_7, nR_0_8, nR_0_9, nR_0_10, nR_1_0, nR_1_1, nR_1_2, nR_1_3, nR_1_4, nR_2_0, nR_2_1, nR_2_2, nR_2_3, nR_2_4, nR_3_0, nR_3_1, nR_4_2, nR_5_2, nR_6_0, nR_6_1, nR_6_2, nR_7_0, nR_30_2, nR_30_3, nR_30_4, nR_30_6, nR_30_7, nR_30_9, nR_30_10, nR_30_11, nR_30_12, nR_30_13, nR_30_14, nR_30_15, nR_30_16, nR_30_18, nR_30_19, nR_30_20, nR_30_21, nR_30_22, nR_30_23, nR_30_24, nR_30_28, nR_30_29, nR_30_31]
  refine sp_laysRows ht hT (fun σ1 s1 L1 => ?_)
  rw [← hWd] at L1
  obtain ⟨l, hl⟩ : ∃ l, l = rws T W n := ⟨_, rfl⟩
  have hin : ∀ p ∈ l, p.1 ≤ p.2 ∧ p.2 ≤ n := by rw [hl]; exact rws_in
  have hlen : l.length ≤ n + 1 := by rw [hl]; exact rws_len
  rw [← hl] at h L1
  have hT1 := MTX_sm hT s1 (fun _ => rfl) (fun _ => rfl)
  have e25 : σ1 30 25 = W := (s1 30 25 rfl).trans hWd.symm
  have hn := hT.2.1
  rw [L1.1]
  have main : ∀ (x : Int) (Q9 : List Int → ho_S → Prop), (x = bI (2 < l.length)) → Q9 [30, (t : Int), bI (2 < l.length ∨ W < wid T l), (l.length : Int)] σ1 → zW (cLt (eV 3) (eF (eV 0) 27)) (zS (zL 2 (eT (cOr (cNe (eV 2) (eC 0)) (cGt (eK mX7_widthFrom (aC (eV 0) (aC (eV 1) (aC (eI (eR (eV 0) 28) (eV 3)) (aC (eI (eR (eV 0) 29) (eV 3)) aN))))) (eF (eV 0) 25))) (eC 1) (eC 0))) (zI 3 1)) [30, (t : Int), x, 0] σ1 Q9 Q X := by
    intro x Q9 hx hQ9
    refine zW_rule (fun v σ' m => ∃ k : Nat, (k ≤ l.length) ∧ v = [30, (t : Int), bI (2 < l.length ∨ W < wid T (l.take k)), (k : Int)] ∧ m = l.length - k ∧ σ' = σ1) _ ⟨0, by omega, ?_, rfl, rfl⟩ ?_
    · rw [hx, bI_c (show (2 < l.length) ↔ (2 < l.length ∨ W < wid T (l.take 0)) from ⟨Or.inl, fun z => z.elim id (fun y => absurd y (Int.not_lt.mpr hW))⟩)]; rfl
    rintro v σ' m ⟨k, hk, rfl, rfl, rfl⟩ KK KE hKK hKE
    simp only [u_eC, u_eV, u_eF, u_eR, u_eI, u_eL, u_eB, u_eD, u_eM, u_eU, u_aN, u_aC, u_eK, u_eT, u_cLt, u_cLe, u_cGt, u_cGe, u_cEq, u_cNe, u_cAnd, u_cOr, u_cNot, u_zN, u_zS, u_zD, u_zL, u_zI, u_zB, u_zP, u_zF, u_zA, u_zU, u_zC, u_zR, u_zRZ, u_zRC, u_zRV, u_zT, u_zE, u_zK, u_zY, ho_nid, List.getD_cons_zero, List.getD_cons_succ, List.set_cons_zero, List.set_cons_succ, List.cons_append, List.nil_append, List.take_succ_cons, List.take_zero, Int.reduceToNat, Int.toNat_natCast, nN_0, nN_1, nN_2, nN_3, nN_4, nN_5, nN_6, nN_7, nN_8, nN_9, nN_10, nN_11, nN_12, nN_13, nN_14, nN_15, nN_16, nN_17, nN_18, nN_19, nN_20, nN_21, nN_22, nN_23, nN_24, nN_25, nN_26, nN_27, nN_28, nN_29, nN_30, nN_31, nN_32, nN_33, nN_34, nN_35, nN_36, nN_37, nN_38, nN_39, nN_40, nN_41, nN_42, nN_43, nN_44, nN_45, nN_46, nN_47, nN_48, nN_49, nN_50, nN_51, nN_52, nN_53, nN_54, nR_0_0, nR_0_1, nR_0_2, nR_0_3, nR_0_4, nR_0_5, nR_0_6, nR_0_7, nR_0_8, nR_0_9, nR_0_10, nR_1_0, nR_1_1, nR_1_2, nR_1_3, nR_1_4, nR_2_0, nR_2_1, nR_2_2, nR_2_3, nR_2_4, nR_3_0, nR_3_1, nR_4_2, nR_5_2, nR_6_0, nR_6_1, nR_6_2, nR_7_0, nR_30_2, nR_30_3, nR_30_4, nR_30_6, nR_30_7, nR_30_9, nR_30_10, nR_30_11, nR_30_12, nR_30_13, nR_30_14, nR_30_15, nR_30_16, nR_30_18, nR_30_19, nR_30_20, nR_30_21, nR_30_22, nR_30_23, nR_30_24, nR_30_28, nR_30_29, nR_30_31, inc (show k < 100000 by omega), L1.1, bI_ne, bI_eq, e25]
    refine ⟨fun c1 => ?_, fun c1 => hKE _ ?_⟩
    · have hkl : k < l.length := by omega
      have hg : l[k]? = some l[k] := List.getElem?_eq_getElem hkl
      obtain ⟨p, hp⟩ : ∃ p, p = l[k] := ⟨_, rfl⟩
      rw [← hp] at hg
      have r9 := L1.2 k p hg
      have i9 := hin p (List.mem_of_getElem? hg)
      have tk : l.take (k + 1) = l.take k ++ [p] := by rw [List.take_succ, hg]; rfl
      have nx : ∀ y : Int, y = bI (2 < l.length ∨ W < wid T (l.take (k + 1))) → KK [30, (t : Int), y, ((k + 1 : Nat) : Int)] σ' := fun y e => hKK _ _ (l.length - (k + 1)) (by omega) ⟨k + 1, by omega, by rw [e], rfl, rfl⟩
      have wv : W < wid T (l.take (k + 1)) ↔ (W < wid T (l.take k) ∨ W < pre T p.2 - pre T p.1) := by
        rw [tk, wid_app]
        unfold ho_omax
        split <;> omega
      refine ⟨fun z => nx 1 (bI_t ?_).symm, fun z => ?_⟩
      · rcases z with z | z
        · exact Or.inl z
        · exact Or.inr (wv.mpr (Or.inl z))
      · simp only [mR_30_2, mR_30_3, mR_30_4, mR_30_6, mR_30_7, mR_30_9, mR_30_10, mR_30_11, mR_30_12, mR_30_13, mR_30_14, mR_30_15, mR_30_16, mR_30_18, mR_30_19, mR_30_20, mR_30_21, mR_30_22, mR_30_23, mR_30_24, mR_30_28, mR_30_29, mR_30_31, mR_0_9, mR_7_0, nN_25, nN_26, nN_27, nN_28, nN_29, nN_30, nN_31, nN_32, nN_33, nN_34, nN_35, nN_36, nN_37, nN_38, nN_39, nN_40, nN_41, nN_42, nN_43, nN_44, nN_45, nN_46, nN_47, nN_48, nN_49, nN_50, nN_51, nN_52, nN_53, nN_54, Int.toNat_natCast]
        rw [r9.1, r9.2]
        refine ⟨by omega, by omega, sp_widthFromT ht hT1 i9.1 i9.2 ?_⟩
        rw [e25]
        exact ⟨fun y => nx 1 (bI_t (Or.inr (wv.mpr (Or.inr y)))).symm, fun y => nx 0 (bI_f (fun w => w.elim (fun a => z (Or.inl a)) (fun a => (wv.mp a).elim (fun b => z (Or.inr b)) (fun b => Int.not_lt.mpr y b)))).symm⟩
    · have hkl : k = l.length := by omega
      subst hkl
      rw [List.take_length]
      exact hQ9
  have fin : (bI (2 < l.length ∨ W < wid T l) = 0 ∨ bI (2 < l.length ∨ W < wid T l) = 1) ∧ Q (bI (2 < l.length ∨ W < wid T l)) σ1 := ⟨bI_01, h σ1 s1⟩
  refine ⟨fun z => ?_, fun z => ?_⟩
  · refine main 1 _ (bI_t (by omega)).symm ?_
    simp only [u_eC, u_eV, u_eF, u_eR, u_eI, u_eL, u_eB, u_eD, u_eM, u_eU, u_aN, u_aC, u_eK, u_eT, u_cLt, u_cLe, u_cGt, u_cGe, u_cEq, u_cNe, u_cAnd, u_cOr, u_cNot, u_zN, u_zS, u_zD, u_zL, u_zI, u_zB, u_zP, u_zF, u_zA, u_zU, u_zC, u_zR, u_zRZ, u_zRC, u_zRV, u_zT, u_zE, u_zK, u_zY, ho_nid, List.getD_cons_zero, List.getD_cons_succ, List.set_cons_zero, List.set_cons_succ, List.cons_append, List.nil_append, List.take_succ_cons, List.take_zero, Int.reduceToNat, Int.toNat_natCast, nN_0, nN_1, nN_2, nN_3, nN_4, nN_5, nN_6, nN_7, nN_8, nN_9, nN_10, nN_11, nN_12, nN_13, nN_14, nN_15, nN_16, nN_17, nN_18, nN_19, nN_20, nN_21, nN_22, nN_23, nN_24, nN_25, nN_26, nN_27, nN_28, nN_29, nN_30, nN_31, nN_32, nN_33, nN_34, nN_35, nN_36, nN_37, nN_38, nN_39, nN_40, nN_41, nN_42, nN_43, nN_44, nN_45, nN_46, nN_47, nN_48, nN_49, nN_50, nN_51, nN_52, nN_53, nN_54, nR_0_0, nR_0_1, nR_0_2, nR_0_3, nR_0_4, nR_0_5, nR_0_6, nR_0_7, nR_0_8, nR_0_9, nR_0_10, nR_1_0, nR_1_1, nR_1_2, nR_1_3, nR_1_4, nR_2_0, nR_2_1, nR_2_2, nR_2_3, nR_2_4, nR_3_0, nR_3_1, nR_4_2, nR_5_2, nR_6_0, nR_6_1, nR_6_2, nR_7_0, nR_30_2, nR_30_3, nR_30_4, nR_30_6, nR_30_7, nR_30_9, nR_30_10, nR_30_11, nR_30_12, nR_30_13, nR_30_14, nR_30_15, nR_30_16, nR_30_18, nR_30_19, nR_30_20, nR_30_21, nR_30_22, nR_30_23, nR_30_24, nR_30_28, nR_30_29, nR_30_31]
    exact fin
  · refine main 0 _ (bI_f (by omega)).symm ?_
    simp only [u_eC, u_eV, u_eF, u_eR, u_eI, u_eL, u_eB, u_eD, u_eM, u_eU, u_aN, u_aC, u_eK, u_eT, u_cLt, u_cLe, u_cGt, u_cGe, u_cEq, u_cNe, u_cAnd, u_cOr, u_cNot, u_zN, u_zS, u_zD, u_zL, u_zI, u_zB, u_zP, u_zF, u_zA, u_zU, u_zC, u_zR, u_zRZ, u_zRC, u_zRV, u_zT, u_zE, u_zK, u_zY, ho_nid, List.getD_cons_zero, List.getD_cons_succ, List.set_cons_zero, List.set_cons_succ, List.cons_append, List.nil_append, List.take_succ_cons, List.take_zero, Int.reduceToNat, Int.toNat_natCast, nN_0, nN_1, nN_2, nN_3, nN_4, nN_5, nN_6, nN_7, nN_8, nN_9, nN_10, nN_11, nN_12, nN_13, nN_14, nN_15, nN_16, nN_17, nN_18, nN_19, nN_20, nN_21, nN_22, nN_23, nN_24, nN_25, nN_26, nN_27, nN_28, nN_29, nN_30, nN_31, nN_32, nN_33, nN_34, nN_35, nN_36, nN_37, nN_38, nN_39, nN_40, nN_41, nN_42, nN_43, nN_44, nN_45, nN_46, nN_47, nN_48, nN_49, nN_50, nN_51, nN_52, nN_53, nN_54, nR_0_0, nR_0_1, nR_0_2, nR_0_3, nR_0_4, nR_0_5, nR_0_6, nR_0_7, nR_0_8, nR_0_9, nR_0_10, nR_1_0, nR_1_1, nR_1_2, nR_1_3, nR_1_4, nR_2_0, nR_2_1, nR_2_2, nR_2_3, nR_2_4, nR_3_0, nR_3_1, nR_4_2, nR_5_2, nR_6_0, nR_6_1, nR_6_2, nR_7_0, nR_30_2, nR_30_3, nR_30_4, nR_30_6, nR_30_7, nR_30_9, nR_30_10, nR_30_11, nR_30_12, nR_30_13, nR_30_14, nR_30_15, nR_30_16, nR_30_18, nR_30_19, nR_30_20, nR_30_21, nR_30_22, nR_30_23, nR_30_24, nR_30_28, nR_30_29, nR_30_31]
    exact fin
theorem tmod_emod {a b : Int} (h : 0 ≤ a) : Int.tmod a b = a % b := Int.tmod_eq_emod_of_nonneg h
theorem sp_isBoundaryAt {N p : Nat} {σ : ho_S} {Q : ho_K} {X : ho_X} (hF : ∀ i, i < N → 0 ≤ σ 34 i ∧ σ 34 i < 4800) (hN : N ≤ 4800) (hp : p < N) : mX7_isBoundaryAt [30, (p : Int)] σ Q X ↔ Q (bI (seamF (σ 34) p = true)) σ := by
  have f1 := hF p hp
  have f0 := hF (p - 1) (by omega)
  simp only [mX7_isBoundaryAt, fX7_isBoundaryAt, u_eC, u_eV, u_eF, u_eR, u_eI, u_eL, u_eB, u_eD, u_eM, u_eU, u_aN, u_aC, u_eK, u_eT, u_cLt, u_cLe, u_cGt, u_cGe, u_cEq, u_cNe, u_cAnd, u_cOr, u_cNot, u_zN, u_zS, u_zD, u_zL, u_zI, u_zB, u_zP, u_zF, u_zA, u_zU, u_zC, u_zR, u_zRZ, u_zRC, u_zRV, u_zT, u_zE, u_zK, u_zY, ho_nid, List.getD_cons_zero, List.getD_cons_succ, List.set_cons_zero, List.set_cons_succ, List.cons_append, List.nil_append, List.take_succ_cons, List.take_zero, Int.reduceToNat, Int.toNat_natCast, nN_0, nN_1, nN_2, nN_3, nN_4, nN_5, nN_6, nN_7, nN_8, nN_9, nN_10, nN_11, nN_12, nN_13, nN_14, nN_15, nN_16, nN_17, nN_18, nN_19, nN_20, nN_21, nN_22, nN_23, nN_24, nN_25, nN_26, nN_27, nN_28, nN_29, nN_30, nN_31, nN_32, nN_33, nN_34, nN_35, nN_36, nN_37, nN_38, nN_39, nN_40, nN_41, nN_42, nN_43, nN_44, nN_45, nN_46, nN_47, nN_48, nN_49, nN_50, nN_51, nN_52, nN_53, nN_54, nR_0_0, nR_0_1, nR_0_2, nR_0_3, nR_0_4, nR_0_5, nR_0_6, nR_0_7, nR_0_8, nR_0_9, nR_0_10, nR_1_0, nR_1_1, nR_1_2, nR_1_3, nR_1_4, nR_2_0, nR_2_1, nR_2_2, nR_2_3, nR_2_4, nR_3_0, nR_3_1, nR_4_2, nR_5_2, nR_6_0, nR_6_1, nR_6_2, nR_7_0, nR_30_2, nR_30_3, nR_30_4, nR_30_6, nR_30_7, nR_30_9, nR_30_10, nR_30_11, nR_30_12, nR_30_13, nR_30_14, nR_30_15, nR_30_16, nR_30_18, nR_30_19, nR_30_20, nR_30_21, nR_30_22, nR_30_23, nR_30_24, nR_30_28, nR_30_29, nR_30_31, n00, n01, true_or, or_true, true_and]
  simp only [mR_30_2, mR_30_3, mR_30_4, mR_30_6, mR_30_7, mR_30_9, mR_30_10, mR_30_11, mR_30_12, mR_30_13, mR_30_14, mR_30_15, mR_30_16, mR_30_18, mR_30_19, mR_30_20, mR_30_21, mR_30_22, mR_30_23, mR_30_24, mR_30_28, mR_30_29, mR_30_31, mR_0_9, mR_7_0, nN_25, nN_26, nN_27, nN_28, nN_29, nN_30, nN_31, nN_32, nN_33, nN_34, nN_35, nN_36, nN_37, nN_38, nN_39, nN_40, nN_41, nN_42, nN_43, nN_44, nN_45, nN_46, nN_47, nN_48, nN_49, nN_50, nN_51, nN_52, nN_53, nN_54, Int.toNat_natCast]
  by_cases h0 : 0 < p
  · obtain ⟨w, rfl⟩ : ∃ w, p = w + 1 := ⟨p - 1, by omega⟩
    rw [show w + 1 - 1 = w by omega] at f0
    rw [odec (by omega), Int.toNat_natCast]
    have q2 : ho_oadd (σ 34 w) 1 = σ 34 w + 1 := wad (by omega) (by omega)
    rw [q2]
    clear q2
    have q3 : ho_w (Int.tmod (σ 34 (w + 1)) 400) = σ 34 (w + 1) % 400 := by rw [tmod_emod f1.1, wE (by omega) (by omega)]
    rw [q3]
    clear q3
    have q4 : seamF (σ 34) (w + 1) = true ↔ (σ 34 (w + 1) ≠ σ 34 w + 1 ∨ σ 34 (w + 1) % 400 = 0) := by
      unfold seamF
      simp only [Bool.and_eq_true, Bool.or_eq_true, decide_eq_true_eq]
      rw [show w + 1 - 1 = w by omega]
      exact ⟨fun z => z.2, fun z => ⟨by omega, z⟩⟩
    have k1 : (0 : Int) < ((w + 1 : Nat) : Int) := by omega
    have k2 : 0 ≤ ((w + 1 : Nat) : Int) ∧ ((w + 1 : Nat) : Int) < 4800 := by omega
    have k3 : 0 ≤ (w : Int) ∧ (w : Int) < 4800 := by omega
    have k4 : ¬ ((w + 1 : Nat) : Int) ≤ 0 := by omega
    simp only [k1, k2, k3, k4, true_implies, false_implies, and_true, true_and, and_self, ne_eq, (show (400 : Int) = 0 ↔ False by simp), not_false_eq_true]
    by_cases z : σ 34 (w + 1) = σ 34 w + 1
    · by_cases y : σ 34 (w + 1) % 400 = 0
      · rw [bI_t (q4.mpr (Or.inr y))]
        exact ⟨fun a => (a.2 z).1 y, fun a => ⟨fun b => absurd z b, fun _ => ⟨fun _ => a, fun b => absurd y b⟩⟩⟩
      · rw [bI_f (fun b => (q4.mp b).elim (fun d => d z) (fun d => y d))]
        exact ⟨fun a => (a.2 z).2 y, fun a => ⟨fun b => absurd z b, fun _ => ⟨fun b => absurd b y, fun _ => a⟩⟩⟩
    · rw [bI_t (q4.mpr (Or.inl z))]
      exact ⟨fun a => a.1 z, fun a => ⟨fun _ => a, fun b => absurd b z⟩⟩
  · have e : seamF (σ 34) p = true ↔ False := by
      unfold seamF
      rw [decide_eq_false h0]; simp
    rw [bI_f (fun z => (e.mp z))]
    exact ⟨fun a => a.2 (by omega), fun a => ⟨fun b => absurd b (by omega), fun _ => a⟩⟩
theorem sp_mhangs {N c s l : Nat} {σ : ho_S} {Q : ho_K} {X : ho_X} (hc : c < 16) (hF : ∀ i, i < N → 0 ≤ σ 34 i ∧ σ 34 i < 4800) (hN : N ≤ 4800) (hs : σ 37 c = (s : Int)) (hl : σ 38 c = (l : Int)) (hsl : s + l ≤ N) (hQ : Q (bI (anyb (hangP (σ 34) s l) (l - 1) = true)) σ) : mX7_hangs [30, (c : Int)] σ Q X := by
  simp only [mX7_hangs, fX7_hangs, u_eC, u_eV, u_eF, u_eR, u_eI, u_eL, u_eB, u_eD, u_eM, u_eU, u_aN, u_aC, u_eK, u_eT, u_cLt, u_cLe, u_cGt, u_cGe, u_cEq, u_cNe, u_cAnd, u_cOr, u_cNot, u_zN, u_zS, u_zD, u_zL, u_zI, u_zB, u_zP, u_zF, u_zA, u_zU, u_zC, u_zR, u_zRZ, u_zRC, u_zRV, u_zT, u_zE, u_zK, u_zY, ho_nid, List.getD_cons_zero, List.getD_cons_succ, List.set_cons_zero, List.set_cons_succ, List.cons_append, List.nil_append, List.take_succ_cons, List.take_zero, Int.reduceToNat, Int.toNat_natCast, nN_0, nN_1, nN_2, nN_3, nN_4, nN_5, nN_6, nN_7, nN_8, nN_9, nN_10, nN_11, nN_12, nN_13, nN_14, nN_15, nN_16, nN_17, nN_18, nN_19, nN_20, nN_21, nN_22, nN_23, nN_24, nN_25, nN_26, nN_27, nN_28, nN_29, nN_30, nN_31, nN_32, nN_33, nN_34, nN_35, nN_36, nN_37, nN_38, nN_39, nN_40, nN_41, nN_42, nN_43, nN_44, nN_45, nN_46, nN_47, nN_48, nN_49, nN_50, nN_51, nN_52, nN_53, nN_54, nR_0_0, nR_0_1, nR_0_2, nR_0_3, nR_0_4, nR_0_5, nR_0_6, nR_0_7, nR_0_8, nR_0_9, nR_0_10, nR_1_0, nR_1_1, nR_1_2, nR_1_3, nR_1_4, nR_2_0, nR_2_1, nR_2_2, nR_2_3, nR_2_4, nR_3_0, nR_3_1, nR_4_2, nR_5_2, nR_6_0, nR_6_1, nR_6_2, nR_7_0, nR_30_2, nR_30_3, nR_30_4, nR_30_6, nR_30_7, nR_30_9, nR_30_10, nR_30_11, nR_30_12, nR_30_13, nR_30_14, nR_30_15, nR_30_16, nR_30_18, nR_30_19, nR_30_20, nR_30_21, nR_30_22, nR_30_23, nR_30_24, nR_30_28, nR_30_29, nR_30_31]
  simp only [mR_30_2, mR_30_3, mR_30_4, mR_30_6, mR_30_7, mR_30_9, mR_30_10, mR_30_11, mR_30_12, mR_30_13, mR_30_14, mR_30_15, mR_30_16, mR_30_18, mR_30_19, mR_30_20, mR_30_21, mR_30_22, mR_30_23, mR_30_24, mR_30_28, mR_30_29, mR_30_31, mR_0_9, mR_7_0, nN_25, nN_26, nN_27, nN_28, nN_29, nN_30, nN_31, nN_32, nN_33, nN_34, nN_35, nN_36, nN_37, nN_38, nN_39, nN_40, nN_41, nN_42, nN_43, nN_44, nN_45, nN_46, nN_47, nN_48, nN_49, nN_50, nN_51, nN_52, nN_53, nN_54, Int.toNat_natCast, hs, hl]
  rw [oad (by omega) (by omega), oinc (by omega)]
  refine ⟨by omega, by omega, by omega, ?_⟩
  refine zW_rule (fun v σ' m => ∃ k : Nat, (k ≤ l - 1) ∧ v = [30, (c : Int), bI (anyb (hangP (σ 34) s l) k = true), ((s + l : Nat) : Int), ((s + 1 + k : Nat) : Int)] ∧ m = l - k ∧ σ' = σ) _ ⟨0, by omega, by rw [bI_f (show ¬ (anyb (hangP (σ 34) s l) 0 = true) from fun z => by cases z)], rfl, rfl⟩ ?_
  rintro v σ' m ⟨k, hk, rfl, rfl, rfl⟩ KK KE hKK hKE
  simp only [u_eC, u_eV, u_eF, u_eR, u_eI, u_eL, u_eB, u_eD, u_eM, u_eU, u_aN, u_aC, u_eK, u_eT, u_cLt, u_cLe, u_cGt, u_cGe, u_cEq, u_cNe, u_cAnd, u_cOr, u_cNot, u_zN, u_zS, u_zD, u_zL, u_zI, u_zB, u_zP, u_zF, u_zA, u_zU, u_zC, u_zR, u_zRZ, u_zRC, u_zRV, u_zT, u_zE, u_zK, u_zY, ho_nid, List.getD_cons_zero, List.getD_cons_succ, List.set_cons_zero, List.set_cons_succ, List.cons_append, List.nil_append, List.take_succ_cons, List.take_zero, Int.reduceToNat, Int.toNat_natCast, nN_0, nN_1, nN_2, nN_3, nN_4, nN_5, nN_6, nN_7, nN_8, nN_9, nN_10, nN_11, nN_12, nN_13, nN_14, nN_15, nN_16, nN_17, nN_18, nN_19, nN_20, nN_21, nN_22, nN_23, nN_24, nN_25, nN_26, nN_27, nN_28, nN_29, nN_30, nN_31, nN_32, nN_33, nN_34, nN_35, nN_36, nN_37, nN_38, nN_39, nN_40, nN_41, nN_42, nN_43, nN_44, nN_45, nN_46, nN_47, nN_48, nN_49, nN_50, nN_51, nN_52, nN_53, nN_54, nR_0_0, nR_0_1, nR_0_2, nR_0_3, nR_0_4, nR_0_5, nR_0_6, nR_0_7, nR_0_8, nR_0_9, nR_0_10, nR_1_0, nR_1_1, nR_1_2, nR_1_3, nR_1_4, nR_2_0, nR_2_1, nR_2_2, nR_2_3, nR_2_4, nR_3_0, nR_3_1, nR_4_2, nR_5_2, nR_6_0, nR_6_1, nR_6_2, nR_7_0, nR_30_2, nR_30_3, nR_30_4, nR_30_6, nR_30_7, nR_30_9, nR_30_10, nR_30_11, nR_30_12, nR_30_13, nR_30_14, nR_30_15, nR_30_16, nR_30_18, nR_30_19, nR_30_20, nR_30_21, nR_30_22, nR_30_23, nR_30_24, nR_30_28, nR_30_29, nR_30_31, inc (show s + 1 + k < 100000 by omega), bI_ne, bI_eq]
  simp only [mR_30_2, mR_30_3, mR_30_4, mR_30_6, mR_30_7, mR_30_9, mR_30_10, mR_30_11, mR_30_12, mR_30_13, mR_30_14, mR_30_15, mR_30_16, mR_30_18, mR_30_19, mR_30_20, mR_30_21, mR_30_22, mR_30_23, mR_30_24, mR_30_28, mR_30_29, mR_30_31, mR_0_9, mR_7_0, nN_25, nN_26, nN_27, nN_28, nN_29, nN_30, nN_31, nN_32, nN_33, nN_34, nN_35, nN_36, nN_37, nN_38, nN_39, nN_40, nN_41, nN_42, nN_43, nN_44, nN_45, nN_46, nN_47, nN_48, nN_49, nN_50, nN_51, nN_52, nN_53, nN_54, Int.toNat_natCast, hs]
  have nx : ∀ y : Int, k < l - 1 → y = bI (anyb (hangP (σ' 34) s l) (k + 1) = true) → KK [30, (c : Int), y, ((s + l : Nat) : Int), ((s + 1 + k + 1 : Nat) : Int)] σ' := fun y hk9 e => hKK _ _ (l - (k + 1)) (by omega) ⟨k + 1, by omega, by rw [e]; rfl, rfl, rfl⟩
  refine ⟨fun c1 => ?_, fun c1 => hKE _ ?_⟩
  · have hk9 : k < l - 1 := by omega
    refine ⟨fun z => nx 1 hk9 (bI_t (by show (anyb _ k || _) = true; rw [z]; rfl)).symm, fun z => ?_⟩
    have z' : anyb (hangP (σ' 34) s l) k = false := by rw [Bool.not_eq_true] at z; exact z
    have step : anyb (hangP (σ' 34) s l) (k + 1) = hangP (σ' 34) s l k := by show (anyb _ k || _) = _; rw [z']; rfl
    have no : hangP (σ' 34) s l k = false → KK [30, (c : Int), 0, ((s + l : Nat) : Int), ((s + 1 + k + 1 : Nat) : Int)] σ' := fun y => nx 0 hk9 (bI_f (by rw [step, y]; simp)).symm
    have yes : hangP (σ' 34) s l k = true → KK [30, (c : Int), 1, ((s + l : Nat) : Int), ((s + 1 + k + 1 : Nat) : Int)] σ' := fun y => nx 1 hk9 (bI_t (by rw [step, y])).symm
    refine (sp_isBoundaryAt hF hN (by omega)).mpr ?_
    simp only [bI_ne, bI_eq, hs]
    rw [show ho_osub ((s + 1 + k : Nat) : Int) (s : Int) = ((k + 1 : Nat) : Int) from by rw [wsu (by omega) (by omega)]; omega, show ho_osub ((s + l : Nat) : Int) ((s + 1 + k : Nat) : Int) = ((l - (k + 1) : Nat) : Int) from by rw [wsu (by omega) (by omega)]; omega]
    refine ⟨fun y => ⟨by omega, fun x => yes ?_, fun x => ⟨fun w => yes ?_, fun w => no ?_⟩⟩, fun y => no ?_⟩
    · unfold hangP
      rw [y, decide_eq_true (show k + 1 < 12 by omega)]; rfl
    · unfold hangP
      rw [y, decide_eq_true (show l - (k + 1) < 12 by omega)]; simp
    · unfold hangP
      rw [decide_eq_false (show ¬ k + 1 < 12 by omega), decide_eq_false (show ¬ l - (k + 1) < 12 by omega)]; rfl
    · unfold hangP
      rw [Bool.not_eq_true] at y
      rw [y]; simp
  · have hk9 : k = l - 1 := by omega
    subst hk9
    exact ⟨bI_01, hQ⟩
