-- the class's memories
def SZ (σ : ho_S) : Prop := ∀ x, x < 80 → 0 ≤ σ 19 x ∧ σ 19 x ≤ 60
theorem sp_isSame {x y : Nat} {σ : ho_S} {Q : ho_K} {X : ho_X} (hx : x < 80) (hy : y < 80) (hz : SZ σ) (h1 : tv (σ 18) (σ 19) x = tv (σ 18) (σ 19) y → Q 1 σ) (h0 : tv (σ 18) (σ 19) x ≠ tv (σ 18) (σ 19) y → Q 0 σ) : mX4_isSame [3, (x : Int), (y : Int)] σ Q X := by
  have zx := hz x hx
  have zy := hz y hy
  simp only [mX4_isSame, fX4_isSame, u_eC, u_eV, u_eF, u_eR, u_eI, u_eL, u_eB, u_eD, u_eM, u_eU, u_aN, u_aC, u_eK, u_eT, u_cLt, u_cLe, u_cGt, u_cGe, u_cEq, u_cNe, u_cAnd, u_cOr, u_cNot, u_zN, u_zS, u_zD, u_zL, u_zI, u_zB, u_zP, u_zF, u_zA, u_zU, u_zC, u_zR, u_zRZ, u_zRC, u_zRV, u_zT, u_zE, u_zK, u_zY, ho_nid, List.getD_cons_zero, List.getD_cons_succ, List.set_cons_zero, List.set_cons_succ, List.cons_append, List.nil_append, List.take_succ_cons, List.take_zero, Int.reduceToNat, Int.toNat_natCast, nN_0, nN_1, nN_2, nN_3, nN_4, nN_5, nN_6, nN_7, nN_8, nN_9, nN_10, nN_11, nN_12, nN_13, nN_14, nN_15, nN_16, nN_17, nN_18, nN_19, nN_20, nN_21, nN_22, nN_23, nN_24, nN_25, nN_26, nN_27, nN_28, nN_29, nN_30, nN_31, nN_32, nN_33, nN_34, nN_35, nN_36, nN_37, nN_38, nN_39, nN_40, nN_41, nN_42, nN_43, nN_44, nN_45, nN_46, nN_47, nN_48, nN_49, nN_50, nN_51, nN_52, nN_53, nN_54, nR_0_0, nR_0_1, nR_0_2, nR_0_3, nR_0_4, nR_0_5, nR_0_6, nR_0_7, nR_0_8, nR_0_9, nR_0_10, nR_1_0, nR_1_1, nR_1_2, nR_1_3, nR_1_4, nR_2_0, nR_2_1, nR_2_2, nR_2_3, nR_2_4, nR_3_0, nR_3_1, nR_4_2, nR_5_2, nR_6_0, nR_6_1, nR_6_2, nR_7_0, nR_30_2, nR_30_3, nR_30_4, nR_30_6, nR_30_7, nR_30_9, nR_30_10, nR_30_11, nR_30_12, nR_30_13, nR_30_14, nR_30_15, nR_30_16, nR_30_18, nR_30_19, nR_30_20, nR_30_21, nR_30_22, nR_30_23, nR_30_24, nR_30_28, nR_30_29, nR_30_31, n00, n01, true_or, or_true, true_and, sp_size hx, sp_size hy]
  refine ⟨fun c => h0 (fun e => c (congrArg Prod.fst e)), fun c => ?_⟩
  obtain ⟨n, hn⟩ : ∃ n : Nat, σ 19 x = (n : Int) := ⟨(σ 19 x).toNat, by omega⟩
  refine zW_rule (fun v σ' m => ∃ k : Nat, k ≤ n ∧ v = [3, (x : Int), (y : Int), (k : Int)] ∧ m = n - k ∧ σ' = σ ∧ ∀ i, i < k → tx (σ 18) (σ 19) x i = tx (σ 18) (σ 19) y i) _ ⟨0, by omega, rfl, rfl, rfl, fun i hi => by omega⟩ ?_
  rintro v σ' m ⟨k, hk, rfl, rfl, rfl, he⟩ KK KE hKK hKE
  simp only [u_eC, u_eV, u_eF, u_eR, u_eI, u_eL, u_eB, u_eD, u_eM, u_eU, u_aN, u_aC, u_eK, u_eT, u_cLt, u_cLe, u_cGt, u_cGe, u_cEq, u_cNe, u_cAnd, u_cOr, u_cNot, u_zN, u_zS, u_zD, u_zL, u_zI, u_zB, u_zP, u_zF, u_zA, u_zU, u_zC, u_zR, u_zRZ, u_zRC, u_zRV, u_zT, u_zE, u_zK, u_zY, ho_nid, List.getD_cons_zero, List.getD_cons_succ, List.set_cons_zero, List.set_cons_succ, List.cons_append, List.nil_append, List.take_succ_cons, List.take_zero, Int.reduceToNat, Int.toNat_natCast, nN_0, nN_1, nN_2, nN_3, nN_4, nN_5, nN_6, nN_7, nN_8, nN_9, nN_10, nN_11, nN_12, nN_13, nN_14, nN_15, nN_16, nN_17, nN_18, nN_19, nN_20, nN_21, nN_22, nN_23, nN_24, nN_25, nN_26, nN_27, nN_28, nN_29, nN_30, nN_31, nN_32, nN_33, nN_34, nN_35, nN_36, nN_37, nN_38, nN_39, nN_40, nN_41, nN_42, nN_43, nN_44, nN_45, nN_46, nN_47, nN_48, nN_49, nN_50, nN_51, nN_52, nN_53, nN_54, nR_0_0, nR_0_1, nR_0_2, nR_0_3, nR_0_4, nR_0_5, nR_0_6, nR_0_7, nR_0_8, nR_0_9, nR_0_10, nR_1_0, nR_1_1, nR_1_2, nR_1_3, nR_1_4, nR_2_0, nR_2_1, nR_2_2, nR_2_3, nR_2_4, nR_3_0, nR_3_1, nR_4_2, nR_5_2, nR_6_0, nR_6_1, nR_6_2, nR_7_0, nR_30_2, nR_30_3, nR_30_4, nR_30_6, nR_30_7, nR_30_9, nR_30_10, nR_30_11, nR_30_12, nR_30_13, nR_30_14, nR_30_15, nR_30_16, nR_30_18, nR_30_19, nR_30_20, nR_30_21, nR_30_22, nR_30_23, nR_30_24, nR_30_28, nR_30_29, nR_30_31, n00, n01, true_or, or_true, true_and, sp_size hx, sp_sign hx zx.2, sp_sign hy zy.2, hn, inc (show k < 100000 by omega)]
  refine ⟨fun c1 => ⟨fun c2 => h0 (fun e => c2 (congrFun (congrArg Prod.snd e) k)), fun c2 => hKK _ _ (n - (k + 1)) (by omega) ⟨k + 1, by omega, rfl, rfl, rfl, fun i hi => ?_⟩⟩, fun c1 => hKE _ (h1 ?_)⟩
  · by_cases q : i = k
    · subst q; exact c2
    · exact he i (by omega)
  · refine tv_eq c (fun i hi => ?_)
    have := he i (by omega)
    rw [tx_in hi, tx_in (by rw [← c]; exact hi)] at this
    exact this
def MOK (mo u O : Nat) : Prop := (mo = 4 ∧ u = 20 ∧ O = 48) ∨ (mo = 5 ∧ u = 21 ∧ O = 64)
def pMm (mo u k : Nat) (_ : Nat) : Bool := Nat.beq k 18 || (Nat.beq k 19 || (Nat.beq k mo || Nat.beq k u))
theorem sp_mfind {mo u O K y : Nat} {σ : ho_S} {Q : ho_K} {X : ho_X} (hm : MOK mo u O) (hO : σ mo 0 = (O : Int)) (hK : σ mo 3 = (K : Int)) (hK8 : K ≤ 8) (hy : y < 80) (hz : SZ σ) (h1 : ∀ s, s < K → tv (σ 18) (σ 19) (O + s) = tv (σ 18) (σ 19) y → Q (s : Int) σ) (h0 : (∀ s, s < K → tv (σ 18) (σ 19) (O + s) ≠ tv (σ 18) (σ 19) y) → Q (-1) σ) : mX2_find [(mo : Int), 3, (y : Int)] σ Q X := by
  have hO2 : O ≤ 64 := by unfold MOK at hm; omega
  simp only [mX2_find, fX2_find, u_eC, u_eV, u_eF, u_eR, u_eI, u_eL, u_eB, u_eD, u_eM, u_eU, u_aN, u_aC, u_eK, u_eT, u_cLt, u_cLe, u_cGt, u_cGe, u_cEq, u_cNe, u_cAnd, u_cOr, u_cNot, u_zN, u_zS, u_zD, u_zL, u_zI, u_zB, u_zP, u_zF, u_zA, u_zU, u_zC, u_zR, u_zRZ, u_zRC, u_zRV, u_zT, u_zE, u_zK, u_zY, ho_nid, List.getD_cons_zero, List.getD_cons_succ, List.set_cons_zero, List.set_cons_succ, List.cons_append, List.nil_append, List.take_succ_cons, List.take_zero, Int.reduceToNat, Int.toNat_natCast, nN_0, nN_1, nN_2, nN_3, nN_4, nN_5, nN_6, nN_7, nN_8, nN_9, nN_10, nN_11, nN_12, nN_13, nN_14, nN_15, nN_16, nN_17, nN_18, nN_19, nN_20, nN_21, nN_22, nN_23, nN_24, nN_25, nN_26, nN_27, nN_28, nN_29, nN_30, nN_31, nN_32, nN_33, nN_34, nN_35, nN_36, nN_37, nN_38, nN_39, nN_40, nN_41, nN_42, nN_43, nN_44, nN_45, nN_46, nN_47, nN_48, nN_49, nN_50, nN_51, nN_52, nN_53, nN_54, nR_0_0, nR_0_1, nR_0_2, nR_0_3, nR_0_4, nR_0_5, nR_0_6, nR_0_7, nR_0_8, nR_0_9, nR_0_10, nR_1_0, nR_1_1, nR_1_2, nR_1_3, nR_1_4, nR_2_0, nR_2_1, nR_2_2, nR_2_3, nR_2_4, nR_3_0, nR_3_1, nR_4_2, nR_5_2, nR_6_0, nR_6_1, nR_6_2, nR_7_0, nR_30_2, nR_30_3, nR_30_4, nR_30_6, nR_30_7, nR_30_9, nR_30_10, nR_30_11, nR_30_12, nR_30_13, nR_30_14, nR_30_15, nR_30_16, nR_30_18, nR_30_19, nR_30_20, nR_30_21, nR_30_22, nR_30_23, nR_30_24, nR_30_28, nR_30_29, nR_30_31]
  refine zW_rule (fun v σ' m => ∃ k : Nat, k ≤ K ∧ v = [(mo : Int), 3, (y : Int), (k : Int)] ∧ m = K - k ∧ σ' = σ ∧ ∀ s, s < k → tv (σ 18) (σ 19) (O + s) ≠ tv (σ 18) (σ 19) y) _ ⟨0, by omega, rfl, rfl, rfl, fun i hi => by omega⟩ ?_
  rintro v σ' m ⟨k, hk, rfl, rfl, rfl, he⟩ KK KE hKK hKE
  simp only [u_eC, u_eV, u_eF, u_eR, u_eI, u_eL, u_eB, u_eD, u_eM, u_eU, u_aN, u_aC, u_eK, u_eT, u_cLt, u_cLe, u_cGt, u_cGe, u_cEq, u_cNe, u_cAnd, u_cOr, u_cNot, u_zN, u_zS, u_zD, u_zL, u_zI, u_zB, u_zP, u_zF, u_zA, u_zU, u_zC, u_zR, u_zRZ, u_zRC, u_zRV, u_zT, u_zE, u_zK, u_zY, ho_nid, List.getD_cons_zero, List.getD_cons_succ, List.set_cons_zero, List.set_cons_succ, List.cons_append, List.nil_append, List.take_succ_cons, List.take_zero, Int.reduceToNat, Int.toNat_natCast, nN_0, nN_1, nN_2, nN_3, nN_4, nN_5, nN_6, nN_7, nN_8, nN_9, nN_10, nN_11, nN_12, nN_13, nN_14, nN_15, nN_16, nN_17, nN_18, nN_19, nN_20, nN_21, nN_22, nN_23, nN_24, nN_25, nN_26, nN_27, nN_28, nN_29, nN_30, nN_31, nN_32, nN_33, nN_34, nN_35, nN_36, nN_37, nN_38, nN_39, nN_40, nN_41, nN_42, nN_43, nN_44, nN_45, nN_46, nN_47, nN_48, nN_49, nN_50, nN_51, nN_52, nN_53, nN_54, nR_0_0, nR_0_1, nR_0_2, nR_0_3, nR_0_4, nR_0_5, nR_0_6, nR_0_7, nR_0_8, nR_0_9, nR_0_10, nR_1_0, nR_1_1, nR_1_2, nR_1_3, nR_1_4, nR_2_0, nR_2_1, nR_2_2, nR_2_3, nR_2_4, nR_3_0, nR_3_1, nR_4_2, nR_5_2, nR_6_0, nR_6_1, nR_6_2, nR_7_0, nR_30_2, nR_30_3, nR_30_4, nR_30_6, nR_30_7, nR_30_9, nR_30_10, nR_30_11, nR_30_12, nR_30_13, nR_30_14, nR_30_15, nR_30_16, nR_30_18, nR_30_19, nR_30_20, nR_30_21, nR_30_22, nR_30_23, nR_30_24, nR_30_28, nR_30_29, nR_30_31, hO, hK, (show ho_oadd (O : Int) (k : Int) = ((O + k : Nat) : Int) from oad (by omega) (by omega)), inc (show k < 100000 by omega)]
  refine ⟨fun c1 => ?_, fun c1 => hKE _ (h0 (fun s hs => he s (by omega)))⟩
  refine sp_isSame (by omega) hy hz (fun e => ⟨fun _ => h1 k (by omega) e, fun z => absurd z (by decide)⟩) (fun e => ⟨fun z => absurd rfl z, fun _ => hKK _ _ (K - (k + 1)) (by omega) ⟨k + 1, by omega, rfl, rfl, rfl, fun s hs => ?_⟩⟩)
  by_cases q : s = k
  · subst q; exact e
  · exact he s (by omega)
theorem sp_freeSlot {mo u O K : Nat} {σ : ho_S} {Q : ho_K} {X : ho_X} (hm : MOK mo u O) (hK : σ mo 3 = (K : Int)) (hK8 : K ≤ 8) (h1 : K < 8 → Q (K : Int) (ho_up σ mo 3 ((K + 1 : Nat) : Int))) (h2 : K = 8 → ∀ s, s < 8 → (∀ s', s' < 8 → σ u s ≤ σ u s') → Q (s : Int) σ) : mX2_freeSlot [(mo : Int)] σ Q X := by
  have hu : ho_R mo 2 = u := by rcases hm with ⟨rfl, rfl, rfl⟩ | ⟨rfl, rfl, rfl⟩ <;> rfl
  have hN : ho_N u = 8 := by rcases hm with ⟨rfl, rfl, rfl⟩ | ⟨rfl, rfl, rfl⟩ <;> rfl
  have gu : ∀ (τ : ho_S) (i : Nat), i < 8 → gi τ (u : Int) (i : Int) = τ u i := fun τ i hi => by
    rw [gi_n (by rw [Int.toNat_natCast]; omega), Int.toNat_natCast]
  simp only [mX2_freeSlot, fX2_freeSlot, u_eC, u_eV, u_eF, u_eR, u_eI, u_eL, u_eB, u_eD, u_eM, u_eU, u_aN, u_aC, u_eK, u_eT, u_cLt, u_cLe, u_cGt, u_cGe, u_cEq, u_cNe, u_cAnd, u_cOr, u_cNot, u_zN, u_zS, u_zD, u_zL, u_zI, u_zB, u_zP, u_zF, u_zA, u_zU, u_zC, u_zR, u_zRZ, u_zRC, u_zRV, u_zT, u_zE, u_zK, u_zY, ho_nid, List.getD_cons_zero, List.getD_cons_succ, List.set_cons_zero, List.set_cons_succ, List.cons_append, List.nil_append, List.take_succ_cons, List.take_zero, Int.reduceToNat, Int.toNat_natCast, nN_0, nN_1, nN_2, nN_3, nN_4, nN_5, nN_6, nN_7, nN_8, nN_9, nN_10, nN_11, nN_12, nN_13, nN_14, nN_15, nN_16, nN_17, nN_18, nN_19, nN_20, nN_21, nN_22, nN_23, nN_24, nN_25, nN_26, nN_27, nN_28, nN_29, nN_30, nN_31, nN_32, nN_33, nN_34, nN_35, nN_36, nN_37, nN_38, nN_39, nN_40, nN_41, nN_42, nN_43, nN_44, nN_45, nN_46, nN_47, nN_48, nN_49, nN_50, nN_51, nN_52, nN_53, nN_54, nR_0_0, nR_0_1, nR_0_2, nR_0_3, nR_0_4, nR_0_5, nR_0_6, nR_0_7, nR_0_8, nR_0_9, nR_0_10, nR_1_0, nR_1_1, nR_1_2, nR_1_3, nR_1_4, nR_2_0, nR_2_1, nR_2_2, nR_2_3, nR_2_4, nR_3_0, nR_3_1, nR_4_2, nR_5_2, nR_6_0, nR_6_1, nR_6_2, nR_7_0, nR_30_2, nR_30_3, nR_30_4, nR_30_6, nR_30_7, nR_30_9, nR_30_10, nR_30_11, nR_30_12, nR_30_13, nR_30_14, nR_30_15, nR_30_16, nR_30_18, nR_30_19, nR_30_20, nR_30_21, nR_30_22, nR_30_23, nR_30_24, nR_30_28, nR_30_29, nR_30_31, hK, oinc (show K < 100000 by omega), ho_upE, odec (show K < 100000 by omega)]
  refine ⟨fun c1 => h1 (by omega), fun c1 => ?_⟩
  have hK9 : K = 8 := by omega
  subst hK9
  refine zW_rule (fun v σ' m => ∃ k s : Nat, 1 ≤ k ∧ k ≤ 8 ∧ s < k ∧ v = [(mo : Int), (s : Int), (k : Int)] ∧ m = 8 - k ∧ σ' = σ ∧ ∀ s', s' < k → σ u s ≤ σ u s') _ ⟨1, 0, by omega, by omega, by omega, rfl, rfl, rfl, fun i hi => by rw [show i = 0 by omega]; exact Int.le_refl _⟩ ?_
  rintro v σ' m ⟨k, s, hk1, hk, hs, rfl, rfl, rfl, he⟩ KK KE hKK hKE
  simp only [u_eC, u_eV, u_eF, u_eR, u_eI, u_eL, u_eB, u_eD, u_eM, u_eU, u_aN, u_aC, u_eK, u_eT, u_cLt, u_cLe, u_cGt, u_cGe, u_cEq, u_cNe, u_cAnd, u_cOr, u_cNot, u_zN, u_zS, u_zD, u_zL, u_zI, u_zB, u_zP, u_zF, u_zA, u_zU, u_zC, u_zR, u_zRZ, u_zRC, u_zRV, u_zT, u_zE, u_zK, u_zY, ho_nid, List.getD_cons_zero, List.getD_cons_succ, List.set_cons_zero, List.set_cons_succ, List.cons_append, List.nil_append, List.take_succ_cons, List.take_zero, Int.reduceToNat, Int.toNat_natCast, nN_0, nN_1, nN_2, nN_3, nN_4, nN_5, nN_6, nN_7, nN_8, nN_9, nN_10, nN_11, nN_12, nN_13, nN_14, nN_15, nN_16, nN_17, nN_18, nN_19, nN_20, nN_21, nN_22, nN_23, nN_24, nN_25, nN_26, nN_27, nN_28, nN_29, nN_30, nN_31, nN_32, nN_33, nN_34, nN_35, nN_36, nN_37, nN_38, nN_39, nN_40, nN_41, nN_42, nN_43, nN_44, nN_45, nN_46, nN_47, nN_48, nN_49, nN_50, nN_51, nN_52, nN_53, nN_54, nR_0_0, nR_0_1, nR_0_2, nR_0_3, nR_0_4, nR_0_5, nR_0_6, nR_0_7, nR_0_8, nR_0_9, nR_0_10, nR_1_0, nR_1_1, nR_1_2, nR_1_3, nR_1_4, nR_2_0, nR_2_1, nR_2_2, nR_2_3, nR_2_4, nR_3_0, nR_3_1, nR_4_2, nR_5_2, nR_6_0, nR_6_1, nR_6_2, nR_7_0, nR_30_2, nR_30_3, nR_30_4, nR_30_6, nR_30_7, nR_30_9, nR_30_10, nR_30_11, nR_30_12, nR_30_13, nR_30_14, nR_30_15, nR_30_16, nR_30_18, nR_30_19, nR_30_20, nR_30_21, nR_30_22, nR_30_23, nR_30_24, nR_30_28, nR_30_29, nR_30_31, hK, sp_item, hu, inc (show k < 100000 by omega)]
  refine ⟨fun c1 => ?_, fun c1 => hKE _ (h2 rfl s (by omega) (fun s' hs' => he s' (by omega)))⟩
  rw [gu _ k (by omega), gu _ s (by omega)]
  refine ⟨fun c2 => hKK _ _ (8 - (k + 1)) (by omega) ⟨k + 1, k, by omega, by omega, by omega, rfl, rfl, rfl, fun s' hs' => ?_⟩, fun c2 => hKK _ _ (8 - (k + 1)) (by omega) ⟨k + 1, s, by omega, by omega, by omega, rfl, rfl, rfl, fun s' hs' => ?_⟩⟩
  · by_cases q : s' = k
    · subst q; exact Int.le_refl _
    · have := he s' (by omega); omega
  · by_cases q : s' = k
    · subst q; exact c2
    · exact he s' (by omega)
theorem sp_muse {mo u O s : Nat} {ck : Int} {σ : ho_S} {Q : ho_K} {X : ho_X} (hm : MOK mo u O) (hs : s < 8) (hck : σ mo 4 = ck) (h0 : 0 ≤ ck) (h9 : ck < 100000) (h : Q 0 (ho_up (ho_up σ mo 4 (ck + 1)) u s (ck + 1))) : mX2_use [(mo : Int), (s : Int)] σ Q X := by
  have hu : ho_R mo 2 = u := by rcases hm with ⟨rfl, rfl, rfl⟩ | ⟨rfl, rfl, rfl⟩ <;> rfl
  have hN : ho_N u = 8 := by rcases hm with ⟨rfl, rfl, rfl⟩ | ⟨rfl, rfl, rfl⟩ <;> rfl
  simp only [mX2_use, fX2_use, u_eC, u_eV, u_eF, u_eR, u_eI, u_eL, u_eB, u_eD, u_eM, u_eU, u_aN, u_aC, u_eK, u_eT, u_cLt, u_cLe, u_cGt, u_cGe, u_cEq, u_cNe, u_cAnd, u_cOr, u_cNot, u_zN, u_zS, u_zD, u_zL, u_zI, u_zB, u_zP, u_zF, u_zA, u_zU, u_zC, u_zR, u_zRZ, u_zRC, u_zRV, u_zT, u_zE, u_zK, u_zY, ho_nid, List.getD_cons_zero, List.getD_cons_succ, List.set_cons_zero, List.set_cons_succ, List.cons_append, List.nil_append, List.take_succ_cons, List.take_zero, Int.reduceToNat, Int.toNat_natCast, nN_0, nN_1, nN_2, nN_3, nN_4, nN_5, nN_6, nN_7, nN_8, nN_9, nN_10, nN_11, nN_12, nN_13, nN_14, nN_15, nN_16, nN_17, nN_18, nN_19, nN_20, nN_21, nN_22, nN_23, nN_24, nN_25, nN_26, nN_27, nN_28, nN_29, nN_30, nN_31, nN_32, nN_33, nN_34, nN_35, nN_36, nN_37, nN_38, nN_39, nN_40, nN_41, nN_42, nN_43, nN_44, nN_45, nN_46, nN_47, nN_48, nN_49, nN_50, nN_51, nN_52, nN_53, nN_54, nR_0_0, nR_0_1, nR_0_2, nR_0_3, nR_0_4, nR_0_5, nR_0_6, nR_0_7, nR_0_8, nR_0_9, nR_0_10, nR_1_0, nR_1_1, nR_1_2, nR_1_3, nR_1_4, nR_2_0, nR_2_1, nR_2_2, nR_2_3, nR_2_4, nR_3_0, nR_3_1, nR_4_2, nR_5_2, nR_6_0, nR_6_1, nR_6_2, nR_7_0, nR_30_2, nR_30_3, nR_30_4, nR_30_6, nR_30_7, nR_30_9, nR_30_10, nR_30_11, nR_30_12, nR_30_13, nR_30_14, nR_30_15, nR_30_16, nR_30_18, nR_30_19, nR_30_20, nR_30_21, nR_30_22, nR_30_23, nR_30_24, nR_30_28, nR_30_29, nR_30_31, hck, (show ho_oadd ck 1 = ck + 1 from wad (by omega) (by omega)), ho_upE, sp_store, hu]
  rw [si_n (by rw [Int.toNat_natCast]; omega), Int.toNat_natCast]
  exact h
theorem sp_tcopy {a b : Nat} {σ : ho_S} {Q : ho_K} {X : ho_X} (ha : a < 80) (hb : b < 80) (hab : a ≠ b) (hz : SZ σ) (h : ∀ σ', sm (fun k _ => Nat.beq k 18 || Nat.beq k 19) σ σ' → tv (σ' 18) (σ' 19) b = tv (σ 18) (σ 19) a → (∀ y, y < 80 → y ≠ b → tv (σ' 18) (σ' 19) y = tv (σ 18) (σ 19) y) → Q 0 σ') : mX4_copy [3, (a : Int), (b : Int)] σ Q X := by
  have za := hz a ha
  obtain ⟨n, hn⟩ : ∃ n : Nat, σ 19 a = (n : Int) := ⟨(σ 19 a).toNat, by omega⟩
  simp only [mX4_copy, fX4_copy, u_eC, u_eV, u_eF, u_eR, u_eI, u_eL, u_eB, u_eD, u_eM, u_eU, u_aN, u_aC, u_eK, u_eT, u_cLt, u_cLe, u_cGt, u_cGe, u_cEq, u_cNe, u_cAnd, u_cOr, u_cNot, u_zN, u_zS, u_zD, u_zL, u_zI, u_zB, u_zP, u_zF, u_zA, u_zU, u_zC, u_zR, u_zRZ, u_zRC, u_zRV, u_zT, u_zE, u_zK, u_zY, ho_nid, List.getD_cons_zero, List.getD_cons_succ, List.set_cons_zero, List.set_cons_succ, List.cons_append, List.nil_append, List.take_succ_cons, List.take_zero, Int.reduceToNat, Int.toNat_natCast, nN_0, nN_1, nN_2, nN_3, nN_4, nN_5, nN_6, nN_7, nN_8, nN_9, nN_10, nN_11, nN_12, nN_13, nN_14, nN_15, nN_16, nN_17, nN_18, nN_19, nN_20, nN_21, nN_22, nN_23, nN_24, nN_25, nN_26, nN_27, nN_28, nN_29, nN_30, nN_31, nN_32, nN_33, nN_34, nN_35, nN_36, nN_37, nN_38, nN_39, nN_40, nN_41, nN_42, nN_43, nN_44, nN_45, nN_46, nN_47, nN_48, nN_49, nN_50, nN_51, nN_52, nN_53, nN_54, nR_0_0, nR_0_1, nR_0_2, nR_0_3, nR_0_4, nR_0_5, nR_0_6, nR_0_7, nR_0_8, nR_0_9, nR_0_10, nR_1_0, nR_1_1, nR_1_2, nR_1_3, nR_1_4, nR_2_0, nR_2_1, nR_2_2, nR_2_3, nR_2_4, nR_3_0, nR_3_1, nR_4_2, nR_5_2, nR_6_0, nR_6_1, nR_6_2, nR_7_0, nR_30_2, nR_30_3, nR_30_4, nR_30_6, nR_30_7, nR_30_9, nR_30_10, nR_30_11, nR_30_12, nR_30_13, nR_30_14, nR_30_15, nR_30_16, nR_30_18, nR_30_19, nR_30_20, nR_30_21, nR_30_22, nR_30_23, nR_30_24, nR_30_28, nR_30_29, nR_30_31, sp_size ha, (show ho_omul (a : Int) 60 = ((60 * a : Nat) : Int) from by rw [wmu (by omega) (by omega)]; simp; omega), (show ho_omul (b : Int) 60 = ((60 * b : Nat) : Int) from by rw [wmu (by omega) (by omega)]; simp; omega), hn]
  refine sp_copyItems (by omega) (by omega) (by omega) (by show _ ≤ (4800 : Int); omega) (by show _ ≤ (4800 : Int); omega) (by decide) (by decide) ?_
  obtain ⟨f, hf⟩ : ∃ f : Nat → Int, f = fun j => if ((60 * b : Nat) : Int).toNat ≤ j ∧ j < ((60 * b : Nat) : Int).toNat + (n : Int).toNat then σ 18 (((60 * a : Nat) : Int).toNat + (j - ((60 * b : Nat) : Int).toNat)) else σ 18 j := ⟨_, rfl⟩
  have e3 : cp σ 18 ((60 * a : Nat) : Int) 18 ((60 * b : Nat) : Int) (n : Int) = sa σ 18 f := by rw [hf]; rfl
  rw [e3]
  rw [show sa σ 18 f 19 a = (n : Int) from hn]
  refine sp_store.mpr ?_
  rw [si19 hb]
  have hf2 : ∀ j, f j = if 60 * b ≤ j ∧ j < 60 * b + n then σ 18 (60 * a + (j - 60 * b)) else σ 18 j := by
    intro j; rw [hf]; rfl
  refine h _ (sm_up (sm_sa sm_rf (fun _ => rfl)) rfl) ?_ (fun y hy hyb => ?_)
  · refine tv_eq ?_ (fun i hi => ?_)
    · rw [ho_upE]; exact hn.symm
    · have hi2 : (i : Int) < n := by rw [ho_upE] at hi; exact hi
      show f (60 * b + i) = _
      rw [hf2, if_pos (by omega)]
      congr 1; omega
  · have zy := hz y hy
    refine tv_eq ?_ (fun i hi => ?_)
    · exact ho_upJ hyb
    · have hi2 : (i : Int) < σ 19 y := by rw [ho_upJ hyb] at hi; exact hi
      show f (60 * y + i) = _
      rw [hf2, if_neg (by omega)]
theorem SZ_of {σ σ' : ho_S} {P : Nat → Prop} (hz : SZ σ) (h : ∀ y, y < 80 → (¬ P y → tv (σ' 18) (σ' 19) y = tv (σ 18) (σ 19) y) ∧ (P y → ∃ x, x < 80 ∧ tv (σ' 18) (σ' 19) y = tv (σ 18) (σ 19) x)) : SZ σ' := by
  intro y hy
  by_cases q : P y
  · obtain ⟨x, hx, e⟩ := (h y hy).2 q
    have e : σ' 19 y = σ 19 x := congrArg Prod.fst e
    rw [e]; exact hz x hx
  · have e : σ' 19 y = σ 19 y := congrArg Prod.fst ((h y hy).1 q)
    rw [e]; exact hz y hy
/-- a memory of the class holds the pairs E -/
def CM (σ : ho_S) (mo u O K : Nat) (E : Nat → TV × TV) : Prop :=
  σ mo 0 = (O : Int) ∧ σ mo 1 = ((O + 8 : Nat) : Int) ∧ σ mo 3 = (K : Int) ∧ RF (fun s => tv (σ 18) (σ 19) (O + s)) (fun s => tv (σ 18) (σ 19) (O + 8 + s)) (σ u) K (σ mo 4) E
theorem sp_give {mo u O K y t : Nat} {ck : Int} {E : Nat → TV × TV} {σ : ho_S} {Q : ho_K} {X : ho_X} (hm : MOK mo u O) (hC : CM σ mo u O K E) (hK8 : K ≤ 8) (hy : y < 48) (ht : t < 48) (hz : SZ σ) (hck : σ mo 4 = ck) (h0 : 0 ≤ ck) (h9 : ck < 100000)
    (hno : (∀ i, i < K → (E i).1 ≠ tv (σ 18) (σ 19) y) → Q 0 σ)
    (hyes : ∀ i, i < K → (E i).1 = tv (σ 18) (σ 19) y → ∀ σ', sm (pMm mo u) σ σ' → CM σ' mo u O K (psh i E K (E i)) → σ' mo 4 = ck + 1 → tv (σ' 18) (σ' 19) t = (E i).2 → (∀ x, x < 80 → x ≠ t → tv (σ' 18) (σ' 19) x = tv (σ 18) (σ 19) x) → SZ σ' → Q 1 σ') : mX2_give [(mo : Int), 3, (y : Int), (t : Int)] σ Q X := by
  have hmm := hm
  unfold MOK at hmm
  obtain ⟨hO, hA, hK, p, p1, p2, p3, p4, p5, p6⟩ := hC
  rw [hck] at p6
  simp only [mX2_give, fX2_give, u_eC, u_eV, u_eF, u_eR, u_eI, u_eL, u_eB, u_eD, u_eM, u_eU, u_aN, u_aC, u_eK, u_eT, u_cLt, u_cLe, u_cGt, u_cGe, u_cEq, u_cNe, u_cAnd, u_cOr, u_cNot, u_zN, u_zS, u_zD, u_zL, u_zI, u_zB, u_zP, u_zF, u_zA, u_zU, u_zC, u_zR, u_zRZ, u_zRC, u_zRV, u_zT, u_zE, u_zK, u_zY, ho_nid, List.getD_cons_zero, List.getD_cons_succ, List.set_cons_zero, List.set_cons_succ, List.cons_append, List.nil_append, List.take_succ_cons, List.take_zero, Int.reduceToNat, Int.toNat_natCast, nN_0, nN_1, nN_2, nN_3, nN_4, nN_5, nN_6, nN_7, nN_8, nN_9, nN_10, nN_11, nN_12, nN_13, nN_14, nN_15, nN_16, nN_17, nN_18, nN_19, nN_20, nN_21, nN_22, nN_23, nN_24, nN_25, nN_26, nN_27, nN_28, nN_29, nN_30, nN_31, nN_32, nN_33, nN_34, nN_35, nN_36, nN_37, nN_38, nN_39, nN_40, nN_41, nN_42, nN_43, nN_44, nN_45, nN_46, nN_47, nN_48, nN_49, nN_50, nN_51, nN_52, nN_53, nN_54, nR_0_0, nR_0_1, nR_0_2, nR_0_3, nR_0_4, nR_0_5, nR_0_6, nR_0_7, nR_0_8, nR_0_9, nR_0_10, nR_1_0, nR_1_1, nR_1_2, nR_1_3, nR_1_4, nR_2_0, nR_2_1, nR_2_2, nR_2_3, nR_2_4, nR_3_0, nR_3_1, nR_4_2, nR_5_2, nR_6_0, nR_6_1, nR_6_2, nR_7_0, nR_30_2, nR_30_3, nR_30_4, nR_30_6, nR_30_7, nR_30_9, nR_30_10, nR_30_11, nR_30_12, nR_30_13, nR_30_14, nR_30_15, nR_30_16, nR_30_18, nR_30_19, nR_30_20, nR_30_21, nR_30_22, nR_30_23, nR_30_24, nR_30_28, nR_30_29, nR_30_31, n00, n01, true_or, or_true, true_and]
  refine sp_mfind hm hO hK hK8 (by omega) hz (fun s hs e => ?_) (fun hn => ⟨fun _ => hno (fun i hi q => ?_), fun z => absurd rfl z⟩)
  · obtain ⟨i, hi, rfl⟩ := p3 s hs
    have hp8 : p i < 8 := by omega
    refine ⟨fun z => absurd z (by omega), fun _ => ?_⟩
    rw [hA, oad (by omega) (by omega)]
    refine sp_tcopy (by omega) (by omega) (by omega) hz (fun σ1 s1 t1 o1 => ?_)
    have m4 : σ1 mo 4 = ck := (s1 mo 4 (by rcases hm with ⟨rfl, rfl, rfl⟩ | ⟨rfl, rfl, rfl⟩ <;> rfl)).trans hck
    refine sp_muse hm hp8 m4 h0 h9 ?_
    have cells : ∀ k, k ≠ mo → k ≠ u → (ho_up (ho_up σ1 mo 4 (ck + 1)) u (p i) (ck + 1)) k = σ1 k := fun k a b => by rw [ho_upF b, ho_upF a]
    have hmu : mo ≠ u := by omega
    have c18 := cells 18 (by omega) (by omega)
    have c19 := cells 19 (by omega) (by omega)
    have cm : ∀ j, j ≠ 4 → (ho_up (ho_up σ1 mo 4 (ck + 1)) u (p i) (ck + 1)) mo j = σ mo j := fun j hj => by
      rw [ho_upF hmu, ho_upJ hj]
      exact s1 mo j (by rcases hm with ⟨rfl, rfl, rfl⟩ | ⟨rfl, rfl, rfl⟩ <;> rfl)
    have cm4 : (ho_up (ho_up σ1 mo 4 (ck + 1)) u (p i) (ck + 1)) mo 4 = ck + 1 := by rw [ho_upF hmu, ho_upE]
    have tvs : ∀ x, x < 80 → x ≠ t → tv (σ1 18) (σ1 19) x = tv (σ 18) (σ 19) x := o1
    have u1 : ∀ x, σ1 u x = σ u x := fun x => s1 u x (by rcases hm with ⟨rfl, rfl, rfl⟩ | ⟨rfl, rfl, rfl⟩ <;> rfl)
    refine hyes i hi ?_ _ ?_ ⟨?_, ?_, ?_, ?_⟩ cm4 ?_ ?_ ?_
    · rw [← (p4 i hi).1]; exact e
    · refine sm_up (sm_up (sm_mo s1 (fun k j z => ?_)) ?_) ?_
      · unfold pMm at z
        cases a : Nat.beq k 18 <;> cases b : Nat.beq k 19 <;> simp [a, b] at z ⊢
      · rcases hm with ⟨rfl, rfl, rfl⟩ | ⟨rfl, rfl, rfl⟩ <;> rfl
      · rcases hm with ⟨rfl, rfl, rfl⟩ | ⟨rfl, rfl, rfl⟩ <;> rfl
    · rw [cm 0 (by omega)]; exact hO
    · rw [cm 1 (by omega)]; exact hA
    · rw [cm 3 (by omega)]; exact hK
    · rw [cm4, c18, c19]
      refine RF_put (a := fun s => tv (σ 18) (σ 19) (O + s)) (b := fun s => tv (σ 18) (σ 19) (O + 8 + s)) (s := p i) p1 p2 p3 p4 p5 p6 (Or.inl ⟨hi, rfl, rfl⟩) (by omega) ho_upE ?_ (fun x hx hxs => ⟨?_, ?_, ?_⟩)
      · show tv (σ1 18) (σ1 19) (O + p i) = _ ∧ tv (σ1 18) (σ1 19) (O + 8 + p i) = _
        rw [tvs _ (by omega) (by omega), tvs _ (by omega) (by omega)]; exact p4 i hi
      · exact tvs _ (by omega) (by omega)
      · exact tvs _ (by omega) (by omega)
      · rw [ho_upJ hxs, ho_upF (show u ≠ mo by omega)]; exact u1 x
    · rw [c18, c19, t1]; exact (p4 i hi).2
    · intro x hx hxt; rw [c18, c19]; exact tvs x hx hxt
    · refine SZ_of (P := fun x => x = t) hz (fun x hx => ⟨fun q => ?_, fun q => ⟨O + 8 + p i, by omega, ?_⟩⟩)
      · rw [c18, c19]; exact tvs x hx q
      · rw [c18, c19, q]; exact t1
  · obtain ⟨h1, _⟩ := p4 i hi
    exact hn (p i) (p1 i hi) (h1.trans q)
theorem OLD_of {σ σ' : ho_S} {P : Nat → Prop} (h : ∀ y, y < 80 → (¬ P y → tv (σ' 18) (σ' 19) y = tv (σ 18) (σ 19) y) ∧ (P y → ∃ x, x < 80 ∧ tv (σ' 18) (σ' 19) y = tv (σ 18) (σ 19) x)) : ∀ y, y < 80 → ∃ x, x < 80 ∧ tv (σ' 18) (σ' 19) y = tv (σ 18) (σ 19) x := by
  intro y hy
  by_cases q : P y
  · exact (h y hy).2 q
  · exact ⟨y, hy, (h y hy).1 q⟩
theorem SZ_old {σ σ' : ho_S} (hz : SZ σ) (h : ∀ y, y < 80 → ∃ x, x < 80 ∧ tv (σ' 18) (σ' 19) y = tv (σ 18) (σ 19) x) : SZ σ' := by
  intro y hy
  obtain ⟨x, hx, e⟩ := h y hy
  have e : σ' 19 y = σ 19 x := congrArg Prod.fst e
  rw [e]; exact hz x hx
theorem sp_mkeep {mo u O K y a : Nat} {ck : Int} {E : Nat → TV × TV} {σ : ho_S} {Q : ho_K} {X : ho_X} (hm : MOK mo u O) (hC : CM σ mo u O K E) (hK8 : K ≤ 8) (hy : y < 48) (ha : a < 48) (hz : SZ σ) (hck : σ mo 4 = ck) (h0 : 0 ≤ ck) (h9 : ck < 100000)
    (h : ∀ K' E', KEEP K E (tv (σ 18) (σ 19) y) (tv (σ 18) (σ 19) a) K' E' → ∀ σ', sm (pMm mo u) σ σ' → CM σ' mo u O K' E' → σ' mo 4 = ck + 1 → (∀ x, x < 80 → (x < O ∨ O + 16 ≤ x) → tv (σ' 18) (σ' 19) x = tv (σ 18) (σ 19) x) → (∀ x, x < 80 → ∃ w, w < 80 ∧ tv (σ' 18) (σ' 19) x = tv (σ 18) (σ 19) w) → Q 0 σ') : mX2_keep [(mo : Int), 3, (y : Int), (a : Int)] σ Q X := by
  have hmm := hm
  unfold MOK at hmm
  have hmu : mo ≠ u := by omega
  obtain ⟨hO, hA, hK, p, p1, p2, p3, p4, p5, p6⟩ := hC
  rw [hck] at p6
  have cell : ∀ (σ1 : ho_S) (s : Nat) k, k ≠ mo → k ≠ u → (ho_up (ho_up σ1 mo 4 (ck + 1)) u s (ck + 1)) k = σ1 k := fun σ1 s k a b => by rw [ho_upF b, ho_upF a]
  have tt : ∀ σ1 σ2 : ho_S, sm (fun k _ => Nat.beq k 18 || Nat.beq k 19) σ1 σ2 → ∀ j, σ2 mo j = σ1 mo j ∧ σ2 u j = σ1 u j := fun σ1 σ2 s1 j => ⟨s1 mo j (by rcases hm with ⟨rfl, rfl, rfl⟩ | ⟨rfl, rfl, rfl⟩ <;> rfl), s1 u j (by rcases hm with ⟨rfl, rfl, rfl⟩ | ⟨rfl, rfl, rfl⟩ <;> rfl)⟩
  have mo' : ∀ σ1 σ2 : ho_S, sm (fun k _ => Nat.beq k 18 || Nat.beq k 19) σ1 σ2 → sm (pMm mo u) σ1 σ2 := fun σ1 σ2 s1 => sm_mo s1 (fun k j z => by
    unfold pMm at z
    cases a : Nat.beq k 18 <;> cases b : Nat.beq k 19 <;> simp [a, b] at z ⊢)
  have pm : ∀ j, pMm mo u mo j = true := fun j => by rcases hm with ⟨rfl, rfl, rfl⟩ | ⟨rfl, rfl, rfl⟩ <;> rfl
  have pu : ∀ j, pMm mo u u j = true := fun j => by rcases hm with ⟨rfl, rfl, rfl⟩ | ⟨rfl, rfl, rfl⟩ <;> rfl
  simp only [mX2_keep, fX2_keep, u_eC, u_eV, u_eF, u_eR, u_eI, u_eL, u_eB, u_eD, u_eM, u_eU, u_aN, u_aC, u_eK, u_eT, u_cLt, u_cLe, u_cGt, u_cGe, u_cEq, u_cNe, u_cAnd, u_cOr, u_cNot, u_zN, u_zS, u_zD, u_zL, u_zI, u_zB, u_zP, u_zF, u_zA, u_zU, u_zC, u_zR, u_zRZ, u_zRC, u_zRV, u_zT, u_zE, u_zK, u_zY, ho_nid, List.getD_cons_zero, List.getD_cons_succ, List.set_cons_zero, List.set_cons_succ, List.cons_append, List.nil_append, List.take_succ_cons, List.take_zero, Int.reduceToNat, Int.toNat_natCast, nN_0, nN_1, nN_2, nN_3, nN_4, nN_5, nN_6, nN_7, nN_8, nN_9, nN_10, nN_11, nN_12, nN_13, nN_14, nN_15, nN_16, nN_17, nN_18, nN_19, nN_20, nN_21, nN_22, nN_23, nN_24, nN_25, nN_26, nN_27, nN_28, nN_29, nN_30, nN_31, nN_32, nN_33, nN_34, nN_35, nN_36, nN_37, nN_38, nN_39, nN_40, nN_41, nN_42, nN_43, nN_44, nN_45, nN_46, nN_47, nN_48, nN_49, nN_50, nN_51, nN_52, nN_53, nN_54, nR_0_0, nR_0_1, nR_0_2, nR_0_3, nR_0_4, nR_0_5, nR_0_6, nR_0_7, nR_0_8, nR_0_9, nR_0_10, nR_1_0, nR_1_1, nR_1_2, nR_1_3, nR_1_4, nR_2_0, nR_2_1, nR_2_2, nR_2_3, nR_2_4, nR_3_0, nR_3_1, nR_4_2, nR_5_2, nR_6_0, nR_6_1, nR_6_2, nR_7_0, nR_30_2, nR_30_3, nR_30_4, nR_30_6, nR_30_7, nR_30_9, nR_30_10, nR_30_11, nR_30_12, nR_30_13, nR_30_14, nR_30_15, nR_30_16, nR_30_18, nR_30_19, nR_30_20, nR_30_21, nR_30_22, nR_30_23, nR_30_24, nR_30_28, nR_30_29, nR_30_31]
  refine sp_mfind hm hO hK hK8 (by omega) hz (fun s hs e => ?_) (fun hn => ⟨fun _ => ?_, fun z => absurd rfl z⟩)
  · obtain ⟨i, hi, rfl⟩ := p3 s hs
    have hp8 : p i < 8 := by omega
    refine ⟨fun z => absurd z (by omega), fun _ => ?_⟩
    rw [hA, oad (by omega) (by omega)]
    refine sp_tcopy (by omega) (by omega) (by omega) hz (fun σ1 s1 t1 o1 => ?_)
    have m4 : σ1 mo 4 = ck := ((tt _ _ s1) 4).1.trans hck
    refine sp_muse hm hp8 m4 h0 h9 ?_
    have c18 := cell σ1 (p i) 18 (by omega) (by omega)
    have c19 := cell σ1 (p i) 19 (by omega) (by omega)
    have cm : ∀ j, j ≠ 4 → (ho_up (ho_up σ1 mo 4 (ck + 1)) u (p i) (ck + 1)) mo j = σ mo j := fun j hj => by
      rw [ho_upF hmu, ho_upJ hj]
      exact ((tt _ _ s1) j).1
    have cm4 : (ho_up (ho_up σ1 mo 4 (ck + 1)) u (p i) (ck + 1)) mo 4 = ck + 1 := by rw [ho_upF hmu, ho_upE]
    refine h K _ (Or.inl ⟨i, hi, (p4 i hi).1.symm.trans e, rfl, rfl⟩) _ (sm_up (sm_up (mo' _ _ s1) (pm _)) (pu _)) ⟨?_, ?_, ?_, ?_⟩ cm4 ?_ ?_
    · rw [cm 0 (by omega)]; exact hO
    · rw [cm 1 (by omega)]; exact hA
    · rw [cm 3 (by omega)]; exact hK
    · rw [cm4, c18, c19]
      refine RF_put (a := fun s => tv (σ 18) (σ 19) (O + s)) (b := fun s => tv (σ 18) (σ 19) (O + 8 + s)) (s := p i) p1 p2 p3 p4 p5 p6 (Or.inl ⟨hi, rfl, rfl⟩) (by omega) ho_upE ⟨?_, t1⟩ (fun x hx hxs => ⟨?_, ?_, ?_⟩)
      · show tv (σ1 18) (σ1 19) (O + p i) = _
        rw [o1 _ (by omega) (by omega)]; exact e
      · exact o1 _ (by omega) (by omega)
      · exact o1 _ (by omega) (by omega)
      · rw [ho_upJ hxs, ho_upF (show u ≠ mo by omega)]; exact ((tt _ _ s1) x).2
    · intro x hx hxt; rw [c18, c19]; exact o1 x hx (by omega)
    · refine OLD_of (P := fun x => x = O + 8 + p i) (fun x hx => ⟨fun q => ?_, fun q => ⟨a, by omega, ?_⟩⟩)
      · rw [c18, c19]; exact o1 x hx q
      · rw [c18, c19, q]; exact t1
  · -- a slot of its own
    have go : ∀ (s i K' : Nat) (σ0 : ho_S), s < 8 → (i < K ∧ K' = K ∧ s = p i) ∨ (i = K ∧ K' = K + 1 ∧ s = K) → KEEP K E (tv (σ 18) (σ 19) y) (tv (σ 18) (σ 19) a) K' (psh i E K' (tv (σ 18) (σ 19) y, tv (σ 18) (σ 19) a)) → (σ0 = ho_up σ mo 3 (K' : Int)) → mX4_copy [3, (y : Int), ho_oadd (σ0 mo 0) (s : Int)] σ0 (fun _ σ => mX4_copy [3, (a : Int), ho_oadd (σ mo 1) (s : Int)] σ (fun _ σ => mX2_use [(mo : Int), (s : Int)] σ (fun _ σ => Q 0 σ) X) X) X := by
      intro s i K' σ0 hs hi hk hσ0
      have z18 : σ0 18 = σ 18 := by rw [hσ0, ho_upF (by omega)]
      have z19 : σ0 19 = σ 19 := by rw [hσ0, ho_upF (by omega)]
      have zmo : ∀ j, j ≠ 3 → σ0 mo j = σ mo j := fun j hj => by rw [hσ0, ho_upJ hj]
      have zmo3 : σ0 mo 3 = (K' : Int) := by rw [hσ0, ho_upE]
      have zu : ∀ j, σ0 u j = σ u j := fun j => by rw [hσ0, ho_upF (show u ≠ mo by omega)]
      have hz0 : SZ σ0 := by unfold SZ; rw [z19]; exact hz
      have s0 : sm (pMm mo u) σ σ0 := by rw [hσ0]; exact sm_up sm_rf (pm _)
      clear hσ0
      rw [zmo 0 (by omega), hO, oad (by omega) (by omega)]
      refine sp_tcopy (by omega) (by omega) (by omega) hz0 (fun σ1 s1 t1 o1 => ?_)
      rw [z18, z19] at t1 o1
      have hz1 : SZ σ1 := SZ_of (σ := σ) (P := fun x => x = O + s) hz (fun x hx => ⟨fun q => o1 x hx q, fun q => ⟨y, by omega, by rw [q]; exact t1⟩⟩)
      rw [((tt _ _ s1) 1).1, zmo 1 (by omega), hA, oad (by omega) (by omega)]
      refine sp_tcopy (by omega) (by omega) (by omega) hz1 (fun σ2 s2 t2 o2 => ?_)
      have o3 : ∀ x, x < 80 → x ≠ O + s → x ≠ O + 8 + s → tv (σ2 18) (σ2 19) x = tv (σ 18) (σ 19) x := fun x hx q1 q2 => (o2 x hx q2).trans (o1 x hx q1)
      have t3 : tv (σ2 18) (σ2 19) (O + 8 + s) = tv (σ 18) (σ 19) a := t2.trans (o1 a (by omega) (by omega))
      have t4 : tv (σ2 18) (σ2 19) (O + s) = tv (σ 18) (σ 19) y := (o2 _ (by omega) (by omega)).trans t1
      have m4 : σ2 mo 4 = ck := ((tt _ _ s2) 4).1.trans (((tt _ _ s1) 4).1.trans ((zmo 4 (by omega)).trans hck))
      refine sp_muse hm hs m4 h0 h9 ?_
      have c18 := cell σ2 s 18 (by omega) (by omega)
      have c19 := cell σ2 s 19 (by omega) (by omega)
      have cm : ∀ j, j ≠ 4 → (ho_up (ho_up σ2 mo 4 (ck + 1)) u s (ck + 1)) mo j = σ0 mo j := fun j hj => by
        rw [ho_upF hmu, ho_upJ hj]
        exact ((tt _ _ s2) j).1.trans ((tt _ _ s1) j).1
      have cm4 : (ho_up (ho_up σ2 mo 4 (ck + 1)) u s (ck + 1)) mo 4 = ck + 1 := by rw [ho_upF hmu, ho_upE]
      refine h K' _ hk _ (sm_up (sm_up (sm_tr s0 (sm_tr (mo' _ _ s1) (mo' _ _ s2))) (pm _)) (pu _)) ⟨?_, ?_, ?_, ?_⟩ cm4 ?_ ?_
      · rw [cm 0 (by omega), zmo 0 (by omega)]; exact hO
      · rw [cm 1 (by omega), zmo 1 (by omega)]; exact hA
      · rw [cm 3 (by omega)]; exact zmo3
      · rw [cm4, c18, c19]
        refine RF_put (a := fun s => tv (σ 18) (σ 19) (O + s)) (b := fun s => tv (σ 18) (σ 19) (O + 8 + s)) (s := s) p1 p2 p3 p4 p5 p6 hi (by omega) ho_upE ⟨t4, t3⟩ (fun x hx hxs => ⟨?_, ?_, ?_⟩)
        · exact o3 _ (by omega) (by omega) (by omega)
        · exact o3 _ (by omega) (by omega) (by omega)
        · rw [ho_upJ hxs, ho_upF (show u ≠ mo by omega)]
          exact ((tt _ _ s2) x).2.trans (((tt _ _ s1) x).2.trans (zu x))
      · intro x hx hxt; rw [c18, c19]; exact o3 x hx (by omega) (by omega)
      · refine OLD_of (σ := σ) (P := fun x => x = O + s ∨ x = O + 8 + s) (fun x hx => ⟨fun q => ?_, fun q => ?_⟩)
        · rw [c18, c19]; exact o3 x hx (fun w => q (Or.inl w)) (fun w => q (Or.inr w))
        · rw [c18, c19]
          rcases q with q | q
          · exact ⟨y, by omega, by rw [q]; exact t4⟩
          · exact ⟨a, by omega, by rw [q]; exact t3⟩
    have nf : ∀ i, i < K → (E i).1 ≠ tv (σ 18) (σ 19) y := fun i hi q => hn (p i) (p1 i hi) ((p4 i hi).1.trans q)
    refine sp_freeSlot hm hK hK8 (fun c => ?_) (fun c s hs hmin => ?_)
    · exact go K K (K + 1) _ c (Or.inr ⟨rfl, rfl, rfl⟩) (Or.inr (Or.inl ⟨nf, c, rfl, rfl⟩)) rfl
    · subst c
      have e0 : s = p 0 := by
        obtain ⟨j, hj, rfl⟩ := p3 s hs
        by_cases q : j = 0
        · rw [q]
        · have a1 := p5 0 j (by omega) hj
          have a2 := hmin (p 0) (p1 0 (by omega))
          omega
      have hσ : σ = ho_up σ mo 3 ((8 : Nat) : Int) := by
        funext k j
        show _ = if k = mo ∧ j = 3 then _ else _
        by_cases q : k = mo ∧ j = 3
        · rw [if_pos q, q.1, q.2]; exact hK
        · rw [if_neg q]
      exact go s 0 8 σ hs (Or.inl ⟨by omega, rfl, e0⟩) (Or.inr (Or.inr ⟨nf, rfl, rfl, rfl⟩)) hσ
