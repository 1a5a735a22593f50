-- the model's memories
theorem o9 {m r : Nat} (hm : m < 1000) (hr : r < 1000) : ho_oadd (ho_omul 9 (m : Int)) (r : Int) = ((9 * m + r : Nat) : Int) := by
  rw [wmu (by omega) (by omega), wad (by omega) (by omega)]; simp
theorem o9z {m : Nat} (hm : m < 1000) : ho_omul 9 (m : Int) = ((9 * m : Nat) : Int) := by
  rw [wmu (by omega) (by omega)]; simp
def SZM (σ : ho_S) : Prop := (∀ x, x < 48 → 0 ≤ σ 41 x ∧ σ 41 x ≤ 60) ∧ ∀ x, x < 18 → (0 ≤ σ 46 x ∧ σ 46 x ≤ 60) ∧ 0 ≤ σ 48 x ∧ σ 48 x ≤ 60
theorem sp_keptFor {m K y : Nat} {σ : ho_S} {Q : ho_K} {X : ho_X} (hm : m < 2) (hK : σ 45 m = (K : Int)) (hK9 : K ≤ 9) (hy : y < 48) (hz : SZM σ) (h1 : ∀ r, r < K → tv (σ 47) (σ 46) (9 * m + r) = tv (σ 42) (σ 41) y → Q ((9 * m + r : Nat) : Int) σ) (h0 : (∀ r, r < K → tv (σ 47) (σ 46) (9 * m + r) ≠ tv (σ 42) (σ 41) y) → Q (-1) σ) : mX7_keptFor [30, (m : Int), (y : Int)] σ Q X := by
  have zy := hz.1 y hy
  obtain ⟨n, hn⟩ : ∃ n : Nat, σ 41 y = (n : Int) := ⟨(σ 41 y).toNat, by omega⟩
  simp only [mX7_keptFor, fX7_keptFor, u_eC, u_eV, u_eF, u_eR, u_eI, u_eL, u_eB, u_eD, u_eM, u_eU, u_aN, u_aC, u_eK, u_eT, u_cLt, u_cLe, u_cGt, u_cGe, u_cEq, u_cNe, u_cAnd, u_cOr, u_cNot, u_zN, u_zS, u_zD, u_zL, u_zI, u_zB, u_zP, u_zF, u_zA, u_zU, u_zC, u_zR, u_zRZ, u_zRC, u_zRV, u_zT, u_zE, u_zK, u_zY, ho_nid, List.getD_cons_zero, List.getD_cons_succ, List.set_cons_zero, List.set_cons_succ, List.cons_append, List.nil_append, List.take_succ_cons, List.take_zero, Int.reduceToNat, Int.toNat_natCast, nN_0, nN_1, nN_2, nN_3, nN_4, nN_5, nN_6, nN_7, nN_8, nN_9, nN_10, nN_11, nN_12, nN_13, nN_14, nN_15, nN_16, nN_17, nN_18, nN_19, nN_20, nN_21, nN_22, nN_23, nN_24, nN_25, nN_26, nN_27, nN_28, nN_29, nN_30, nN_31, nN_32, nN_33, nN_34, nN_35, nN_36, nN_37, nN_38, nN_39, nN_40, nN_41, nN_42, nN_43, nN_44, nN_45, nN_46, nN_47, nN_48, nN_49, nN_50, nN_51, nN_52, nN_53, nN_54, nR_0_0, nR_0_1, nR_0_2, nR_0_3, nR_0_4, nR_0_5, nR_0_6, nR_0_7, nR_0_8, nR_0_9, nR_0_10, nR_1_0, nR_1_1, nR_1_2, nR_1_3, nR_1_4, nR_2_0, nR_2_1, nR_2_2, nR_2_3, nR_2_4, nR_3_0, nR_3_1, nR_4_2, nR_5_2, nR_6_0, nR_6_1, nR_6_2, nR_7_0, nR_30_2, nR_30_3, nR_30_4, nR_30_6, nR_30_7, nR_30_9, nR_30_10, nR_30_11, nR_30_12, nR_30_13, nR_30_14, nR_30_15, nR_30_16, nR_30_18, nR_30_19, nR_30_20, nR_30_21, nR_30_22, nR_30_23, nR_30_24, nR_30_28, nR_30_29, nR_30_31]
  refine zW_rule (fun v σ' z => ∃ (r : Nat) (f : Int), r ≤ K ∧ v = [30, (m : Int), (y : Int), f, ((9 * m + r : Nat) : Int)] ∧ z = K - r ∧ σ' = σ ∧ ((f = -1 ∧ ∀ w, w < r → tv (σ 47) (σ 46) (9 * m + w) ≠ tv (σ 42) (σ 41) y) ∨ ∃ w, w < r ∧ f = ((9 * m + w : Nat) : Int) ∧ tv (σ 47) (σ 46) (9 * m + w) = tv (σ 42) (σ 41) y)) _ ⟨0, -1, by omega, by rw [o9z (by omega)]; rfl, rfl, rfl, Or.inl ⟨rfl, fun w hw => by omega⟩⟩ ?_
  rintro v σ' z ⟨r, f, hr, rfl, rfl, rfl, hf⟩ KK KE hKK hKE
  have zr := fun (h : r < K) => (hz.2 (9 * m + r) (by omega)).1
  simp only [u_eC, u_eV, u_eF, u_eR, u_eI, u_eL, u_eB, u_eD, u_eM, u_eU, u_aN, u_aC, u_eK, u_eT, u_cLt, u_cLe, u_cGt, u_cGe, u_cEq, u_cNe, u_cAnd, u_cOr, u_cNot, u_zN, u_zS, u_zD, u_zL, u_zI, u_zB, u_zP, u_zF, u_zA, u_zU, u_zC, u_zR, u_zRZ, u_zRC, u_zRV, u_zT, u_zE, u_zK, u_zY, ho_nid, List.getD_cons_zero, List.getD_cons_succ, List.set_cons_zero, List.set_cons_succ, List.cons_append, List.nil_append, List.take_succ_cons, List.take_zero, Int.reduceToNat, Int.toNat_natCast, nN_0, nN_1, nN_2, nN_3, nN_4, nN_5, nN_6, nN_7, nN_8, nN_9, nN_10, nN_11, nN_12, nN_13, nN_14, nN_15, nN_16, nN_17, nN_18, nN_19, nN_20, nN_21, nN_22, nN_23, nN_24, nN_25, nN_26, nN_27, nN_28, nN_29, nN_30, nN_31, nN_32, nN_33, nN_34, nN_35, nN_36, nN_37, nN_38, nN_39, nN_40, nN_41, nN_42, nN_43, nN_44, nN_45, nN_46, nN_47, nN_48, nN_49, nN_50, nN_51, nN_52, nN_53, nN_54, nR_0_0, nR_0_1, nR_0_2, nR_0_3, nR_0_4, nR_0_5, nR_0_6, nR_0_7, nR_0_8, nR_0_9, nR_0_10, nR_1_0, nR_1_1, nR_1_2, nR_1_3, nR_1_4, nR_2_0, nR_2_1, nR_2_2, nR_2_3, nR_2_4, nR_3_0, nR_3_1, nR_4_2, nR_5_2, nR_6_0, nR_6_1, nR_6_2, nR_7_0, nR_30_2, nR_30_3, nR_30_4, nR_30_6, nR_30_7, nR_30_9, nR_30_10, nR_30_11, nR_30_12, nR_30_13, nR_30_14, nR_30_15, nR_30_16, nR_30_18, nR_30_19, nR_30_20, nR_30_21, nR_30_22, nR_30_23, nR_30_24, nR_30_28, nR_30_29, nR_30_31, inc (show 9 * m + r < 100000 by omega)]
  simp only [mR_30_2, mR_30_3, mR_30_4, mR_30_6, mR_30_7, mR_30_9, mR_30_10, mR_30_11, mR_30_12, mR_30_13, mR_30_14, mR_30_15, mR_30_16, mR_30_18, mR_30_19, mR_30_20, mR_30_21, mR_30_22, mR_30_23, mR_30_24, mR_30_28, mR_30_29, mR_30_31, mR_0_9, mR_7_0, nN_25, nN_26, nN_27, nN_28, nN_29, nN_30, nN_31, nN_32, nN_33, nN_34, nN_35, nN_36, nN_37, nN_38, nN_39, nN_40, nN_41, nN_42, nN_43, nN_44, nN_45, nN_46, nN_47, nN_48, nN_49, nN_50, nN_51, nN_52, nN_53, nN_54, Int.toNat_natCast, hK, hn, (show ho_oadd (ho_omul 9 (m : Int)) (K : Int) = ((9 * m + K : Nat) : Int) from o9 (by omega) (by omega))]
  refine ⟨by omega, fun c1 => ?_, fun c1 => hKE _ ?_⟩
  · have hrK : r < K := by omega
    have zr' := zr hrK
    have fin : ∀ (is : Int), ((is = 1 ∧ tv (σ' 47) (σ' 46) (9 * m + r) = tv (σ' 42) (σ' 41) y) ∨ (is = 0 ∧ tv (σ' 47) (σ' 46) (9 * m + r) ≠ tv (σ' 42) (σ' 41) y)) → (is ≠ 0 → KK [30, (m : Int), (y : Int), ((9 * m + r : Nat) : Int), ((9 * m + r + 1 : Nat) : Int)] σ') ∧ (is = 0 → KK [30, (m : Int), (y : Int), f, ((9 * m + r + 1 : Nat) : Int)] σ') := by
      intro is h9
      refine ⟨fun q => hKK _ _ (K - (r + 1)) (by omega) ⟨r + 1, _, by omega, rfl, rfl, rfl, Or.inr ⟨r, by omega, rfl, ?_⟩⟩, fun q => hKK _ _ (K - (r + 1)) (by omega) ⟨r + 1, _, by omega, rfl, rfl, rfl, ?_⟩⟩
      · rcases h9 with ⟨a, b⟩ | ⟨a, b⟩
        · exact b
        · exact absurd a q
      · rcases h9 with ⟨a, b⟩ | ⟨a, b⟩
        · omega
        · rcases hf with ⟨g1, g2⟩ | ⟨w, g1, g2, g3⟩
          · refine Or.inl ⟨g1, fun w hw => ?_⟩
            by_cases z : w = r
            · subst z; exact b
            · exact g2 w (by omega)
          · exact Or.inr ⟨w, by omega, g2, g3⟩
    have inner : ∀ is0 : Int, ((is0 = 1 ∧ σ' 46 (9 * m + r) = (n : Int)) ∨ (is0 = 0 ∧ tv (σ' 47) (σ' 46) (9 * m + r) ≠ tv (σ' 42) (σ' 41) y)) → ∀ Q9 : List Int → ho_S → Prop, (∀ (is : Int) (i : Nat), ((is = 1 ∧ tv (σ' 47) (σ' 46) (9 * m + r) = tv (σ' 42) (σ' 41) y) ∨ (is = 0 ∧ tv (σ' 47) (σ' 46) (9 * m + r) ≠ tv (σ' 42) (σ' 41) y)) → Q9 [30, (m : Int), (y : Int), f, ((9 * m + r : Nat) : Int), is, (i : Int)] σ') → zW (cAnd (cLt (eV 6) (eI (eR (eV 0) 14) (eV 2))) (cNe (eV 5) (eC 0))) (zS (zL 5 (eT (cEq (eI (eR (eV 0) 21) (eB ho_oadd (eB ho_omul (eC 60) (eV 4)) (eV 6))) (eI (eR (eV 0) 15) (eB ho_oadd (eB ho_omul (eC 60) (eV 2)) (eV 6)))) (eC 1) (eC 0))) (zI 6 1)) [30, (m : Int), (y : Int), f, ((9 * m + r : Nat) : Int), is0, 0] σ' Q9 (fun r σ => Q r σ) X := by
      intro is0 h9 Q9 hQ9
      refine zW_rule (fun v σ1 z => ∃ (i : Nat) (is : Int), i ≤ n ∧ v = [30, (m : Int), (y : Int), f, ((9 * m + r : Nat) : Int), is, (i : Int)] ∧ z = n - i ∧ σ1 = σ' ∧ ((is = 1 ∧ σ' 46 (9 * m + r) = (n : Int) ∧ ∀ w, w < i → σ' 47 (60 * (9 * m + r) + w) = σ' 42 (60 * y + w)) ∨ (is = 0 ∧ tv (σ' 47) (σ' 46) (9 * m + r) ≠ tv (σ' 42) (σ' 41) y))) _ ⟨0, is0, by omega, rfl, rfl, rfl, ?_⟩ ?_
      · rcases h9 with ⟨a, b⟩ | ⟨a, b⟩
        · exact Or.inl ⟨a, b, fun w hw => by omega⟩
        · exact Or.inr ⟨a, b⟩
      rintro v σ1 z ⟨i, is, hi, rfl, rfl, rfl, hs⟩ K2 KE2 hK2 hE2
      simp only [u_eC, u_eV, u_eF, u_eR, u_eI, u_eL, u_eB, u_eD, u_eM, u_eU, u_aN, u_aC, u_eK, u_eT, u_cLt, u_cLe, u_cGt, u_cGe, u_cEq, u_cNe, u_cAnd, u_cOr, u_cNot, u_zN, u_zS, u_zD, u_zL, u_zI, u_zB, u_zP, u_zF, u_zA, u_zU, u_zC, u_zR, u_zRZ, u_zRC, u_zRV, u_zT, u_zE, u_zK, u_zY, ho_nid, List.getD_cons_zero, List.getD_cons_succ, List.set_cons_zero, List.set_cons_succ, List.cons_append, List.nil_append, List.take_succ_cons, List.take_zero, Int.reduceToNat, Int.toNat_natCast, nN_0, nN_1, nN_2, nN_3, nN_4, nN_5, nN_6, nN_7, nN_8, nN_9, nN_10, nN_11, nN_12, nN_13, nN_14, nN_15, nN_16, nN_17, nN_18, nN_19, nN_20, nN_21, nN_22, nN_23, nN_24, nN_25, nN_26, nN_27, nN_28, nN_29, nN_30, nN_31, nN_32, nN_33, nN_34, nN_35, nN_36, nN_37, nN_38, nN_39, nN_40, nN_41, nN_42, nN_43, nN_44, nN_45, nN_46, nN_47, nN_48, nN_49, nN_50, nN_51, nN_52, nN_53, nN_54, nR_0_0, nR_0_1, nR_0_2, nR_0_3, nR_0_4, nR_0_5, nR_0_6, nR_0_7, nR_0_8, nR_0_9, nR_0_10, nR_1_0, nR_1_1, nR_1_2, nR_1_3, nR_1_4, nR_2_0, nR_2_1, nR_2_2, nR_2_3, nR_2_4, nR_3_0, nR_3_1, nR_4_2, nR_5_2, nR_6_0, nR_6_1, nR_6_2, nR_7_0, nR_30_2, nR_30_3, nR_30_4, nR_30_6, nR_30_7, nR_30_9, nR_30_10, nR_30_11, nR_30_12, nR_30_13, nR_30_14, nR_30_15, nR_30_16, nR_30_18, nR_30_19, nR_30_20, nR_30_21, nR_30_22, nR_30_23, nR_30_24, nR_30_28, nR_30_29, nR_30_31, inc (show i < 100000 by omega)]
      simp only [mR_30_2, mR_30_3, mR_30_4, mR_30_6, mR_30_7, mR_30_9, mR_30_10, mR_30_11, mR_30_12, mR_30_13, mR_30_14, mR_30_15, mR_30_16, mR_30_18, mR_30_19, mR_30_20, mR_30_21, mR_30_22, mR_30_23, mR_30_24, mR_30_28, mR_30_29, mR_30_31, mR_0_9, mR_7_0, nN_25, nN_26, nN_27, nN_28, nN_29, nN_30, nN_31, nN_32, nN_33, nN_34, nN_35, nN_36, nN_37, nN_38, nN_39, nN_40, nN_41, nN_42, nN_43, nN_44, nN_45, nN_46, nN_47, nN_48, nN_49, nN_50, nN_51, nN_52, nN_53, nN_54, Int.toNat_natCast, hn]
      have eq1 : is = 0 → KE2 σ1 := fun q => hE2 _ (hQ9 is i (by
        rcases hs with ⟨a, b, c⟩ | ⟨a, b⟩
        · omega
        · exact Or.inr ⟨a, b⟩))
      refine ⟨by omega, fun c2 => ⟨fun c3 => ?_, eq1⟩, fun c2 => ?_⟩
      · rcases hs with ⟨a, b, c⟩ | ⟨a, b⟩
        · have hin : i < n := by omega
          rw [(show ho_oadd (ho_omul 60 ((9 * m + r : Nat) : Int)) (i : Int) = ((60 * (9 * m + r) + i : Nat) : Int) from o60 (by omega) (by omega)), (show ho_oadd (ho_omul 60 (y : Int)) (i : Int) = ((60 * y + i : Nat) : Int) from o60 (by omega) (by omega))]
          simp only [Int.toNat_natCast]
          refine ⟨by omega, by omega, fun c4 => hK2 _ _ (n - (i + 1)) (by omega) ⟨i + 1, 1, by omega, rfl, rfl, rfl, Or.inl ⟨rfl, b, fun w hw => ?_⟩⟩, fun c4 => hK2 _ _ (n - (i + 1)) (by omega) ⟨i + 1, 0, by omega, rfl, rfl, rfl, Or.inr ⟨rfl, fun e => c4 ?_⟩⟩⟩
          · by_cases q : w = i
            · subst q; exact c4
            · exact c w (by omega)
          · exact (tv_at e).2 i (by omega)
        · exact absurd a c3
      · refine hE2 _ (hQ9 is i ?_)
        rcases hs with ⟨a, b, c⟩ | ⟨a, b⟩
        · exact Or.inl ⟨a, tv_eq (by rw [b, hn]) (fun w hw => c w (by omega))⟩
        · exact Or.inr ⟨a, b⟩
    refine ⟨by omega, by omega, fun c2 => ?_, fun c2 => ?_⟩
    · exact inner 1 (Or.inl ⟨rfl, c2⟩) _ (fun is i h9 => by
        simp only [u_eC, u_eV, u_eF, u_eR, u_eI, u_eL, u_eB, u_eD, u_eM, u_eU, u_aN, u_aC, u_eK, u_eT, u_cLt, u_cLe, u_cGt, u_cGe, u_cEq, u_cNe, u_cAnd, u_cOr, u_cNot, u_zN, u_zS, u_zD, u_zL, u_zI, u_zB, u_zP, u_zF, u_zA, u_zU, u_zC, u_zR, u_zRZ, u_zRC, u_zRV, u_zT, u_zE, u_zK, u_zY, ho_nid, List.getD_cons_zero, List.getD_cons_succ, List.set_cons_zero, List.set_cons_succ, List.cons_append, List.nil_append, List.take_succ_cons, List.take_zero, Int.reduceToNat, Int.toNat_natCast, nN_0, nN_1, nN_2, nN_3, nN_4, nN_5, nN_6, nN_7, nN_8, nN_9, nN_10, nN_11, nN_12, nN_13, nN_14, nN_15, nN_16, nN_17, nN_18, nN_19, nN_20, nN_21, nN_22, nN_23, nN_24, nN_25, nN_26, nN_27, nN_28, nN_29, nN_30, nN_31, nN_32, nN_33, nN_34, nN_35, nN_36, nN_37, nN_38, nN_39, nN_40, nN_41, nN_42, nN_43, nN_44, nN_45, nN_46, nN_47, nN_48, nN_49, nN_50, nN_51, nN_52, nN_53, nN_54, nR_0_0, nR_0_1, nR_0_2, nR_0_3, nR_0_4, nR_0_5, nR_0_6, nR_0_7, nR_0_8, nR_0_9, nR_0_10, nR_1_0, nR_1_1, nR_1_2, nR_1_3, nR_1_4, nR_2_0, nR_2_1, nR_2_2, nR_2_3, nR_2_4, nR_3_0, nR_3_1, nR_4_2, nR_5_2, nR_6_0, nR_6_1, nR_6_2, nR_7_0, nR_30_2, nR_30_3, nR_30_4, nR_30_6, nR_30_7, nR_30_9, nR_30_10, nR_30_11, nR_30_12, nR_30_13, nR_30_14, nR_30_15, nR_30_16, nR_30_18, nR_30_19, nR_30_20, nR_30_21, nR_30_22, nR_30_23, nR_30_24, nR_30_28, nR_30_29, nR_30_31, inc (show 9 * m + r < 100000 by omega)]
        exact fin is h9)
    · exact inner 0 (Or.inr ⟨rfl, fun e => c2 (by rw [← hn]; exact (tv_at e).1)⟩) _ (fun is i h9 => by
        simp only [u_eC, u_eV, u_eF, u_eR, u_eI, u_eL, u_eB, u_eD, u_eM, u_eU, u_aN, u_aC, u_eK, u_eT, u_cLt, u_cLe, u_cGt, u_cGe, u_cEq, u_cNe, u_cAnd, u_cOr, u_cNot, u_zN, u_zS, u_zD, u_zL, u_zI, u_zB, u_zP, u_zF, u_zA, u_zU, u_zC, u_zR, u_zRZ, u_zRC, u_zRV, u_zT, u_zE, u_zK, u_zY, ho_nid, List.getD_cons_zero, List.getD_cons_succ, List.set_cons_zero, List.set_cons_succ, List.cons_append, List.nil_append, List.take_succ_cons, List.take_zero, Int.reduceToNat, Int.toNat_natCast, nN_0, nN_1, nN_2, nN_3, nN_4, nN_5, nN_6, nN_7, nN_8, nN_9, nN_10, nN_11, nN_12, nN_13, nN_14, nN_15, nN_16, nN_17, nN_18, nN_19, nN_20, nN_21, nN_22, nN_23, nN_24, nN_25, nN_26, nN_27, nN_28, nN_29, nN_30, nN_31, nN_32, nN_33, nN_34, nN_35, nN_36, nN_37, nN_38, nN_39, nN_40, nN_41, nN_42, nN_43, nN_44, nN_45, nN_46, nN_47, nN_48, nN_49, nN_50, nN_51, nN_52, nN_53, nN_54, nR_0_0, nR_0_1, nR_0_2, nR_0_3, nR_0_4, nR_0_5, nR_0_6, nR_0_7, nR_0_8, nR_0_9, nR_0_10, nR_1_0, nR_1_1, nR_1_2, nR_1_3, nR_1_4, nR_2_0, nR_2_1, nR_2_2, nR_2_3, nR_2_4, nR_3_0, nR_3_1, nR_4_2, nR_5_2, nR_6_0, nR_6_1, nR_6_2, nR_7_0, nR_30_2, nR_30_3, nR_30_4, nR_30_6, nR_30_7, nR_30_9, nR_30_10, nR_30_11, nR_30_12, nR_30_13, nR_30_14, nR_30_15, nR_30_16, nR_30_18, nR_30_19, nR_30_20, nR_30_21, nR_30_22, nR_30_23, nR_30_24, nR_30_28, nR_30_29, nR_30_31, inc (show 9 * m + r < 100000 by omega)]
        exact fin is h9)
  · have hrK : r = K := by omega
    subst hrK
    rcases hf with ⟨rfl, g2⟩ | ⟨w, g1, rfl, g3⟩
    · exact h0 g2
    · exact h1 w g1 g3
theorem sp_oldest {m K : Nat} {σ : ho_S} {Q : ho_K} {X : ho_X} (hm : m < 2) (hK : σ 45 m = (K : Int)) (hK9 : K ≤ 9) (hK1 : 1 ≤ K) (h : ∀ r, r < K → (∀ w, w < K → σ 50 (9 * m + r) ≤ σ 50 (9 * m + w)) → Q ((9 * m + r : Nat) : Int) σ) : mX7_oldest [30, (m : Int)] σ Q X := by
  simp only [mX7_oldest, fX7_oldest, u_eC, u_eV, u_eF, u_eR, u_eI, u_eL, u_eB, u_eD, u_eM, u_eU, u_aN, u_aC, u_eK, u_eT, u_cLt, u_cLe, u_cGt, u_cGe, u_cEq, u_cNe, u_cAnd, u_cOr, u_cNot, u_zN, u_zS, u_zD, u_zL, u_zI, u_zB, u_zP, u_zF, u_zA, u_zU, u_zC, u_zR, u_zRZ, u_zRC, u_zRV, u_zT, u_zE, u_zK, u_zY, ho_nid, List.getD_cons_zero, List.getD_cons_succ, List.set_cons_zero, List.set_cons_succ, List.cons_append, List.nil_append, List.take_succ_cons, List.take_zero, Int.reduceToNat, Int.toNat_natCast, nN_0, nN_1, nN_2, nN_3, nN_4, nN_5, nN_6, nN_7, nN_8, nN_9, nN_10, nN_11, nN_12, nN_13, nN_14, nN_15, nN_16, nN_17, nN_18, nN_19, nN_20, nN_21, nN_22, nN_23, nN_24, nN_25, nN_26, nN_27, nN_28, nN_29, nN_30, nN_31, nN_32, nN_33, nN_34, nN_35, nN_36, nN_37, nN_38, nN_39, nN_40, nN_41, nN_42, nN_43, nN_44, nN_45, nN_46, nN_47, nN_48, nN_49, nN_50, nN_51, nN_52, nN_53, nN_54, nR_0_0, nR_0_1, nR_0_2, nR_0_3, nR_0_4, nR_0_5, nR_0_6, nR_0_7, nR_0_8, nR_0_9, nR_0_10, nR_1_0, nR_1_1, nR_1_2, nR_1_3, nR_1_4, nR_2_0, nR_2_1, nR_2_2, nR_2_3, nR_2_4, nR_3_0, nR_3_1, nR_4_2, nR_5_2, nR_6_0, nR_6_1, nR_6_2, nR_7_0, nR_30_2, nR_30_3, nR_30_4, nR_30_6, nR_30_7, nR_30_9, nR_30_10, nR_30_11, nR_30_12, nR_30_13, nR_30_14, nR_30_15, nR_30_16, nR_30_18, nR_30_19, nR_30_20, nR_30_21, nR_30_22, nR_30_23, nR_30_24, nR_30_28, nR_30_29, nR_30_31]
  refine zW_rule (fun v σ' z => ∃ r b : Nat, r ≤ K ∧ b < K ∧ v = [30, (m : Int), ((9 * m + b : Nat) : Int), ((9 * m + r : Nat) : Int)] ∧ z = K - r ∧ σ' = σ ∧ ∀ w, w < r → σ 50 (9 * m + b) ≤ σ 50 (9 * m + w)) _ ⟨0, 0, by omega, by omega, by rw [o9z (by omega)]; rfl, rfl, rfl, fun w hw => by omega⟩ ?_
  rintro v σ' z ⟨r, b, hr, hb, rfl, rfl, rfl, hf⟩ KK KE hKK hKE
  simp only [u_eC, u_eV, u_eF, u_eR, u_eI, u_eL, u_eB, u_eD, u_eM, u_eU, u_aN, u_aC, u_eK, u_eT, u_cLt, u_cLe, u_cGt, u_cGe, u_cEq, u_cNe, u_cAnd, u_cOr, u_cNot, u_zN, u_zS, u_zD, u_zL, u_zI, u_zB, u_zP, u_zF, u_zA, u_zU, u_zC, u_zR, u_zRZ, u_zRC, u_zRV, u_zT, u_zE, u_zK, u_zY, ho_nid, List.getD_cons_zero, List.getD_cons_succ, List.set_cons_zero, List.set_cons_succ, List.cons_append, List.nil_append, List.take_succ_cons, List.take_zero, Int.reduceToNat, Int.toNat_natCast, nN_0, nN_1, nN_2, nN_3, nN_4, nN_5, nN_6, nN_7, nN_8, nN_9, nN_10, nN_11, nN_12, nN_13, nN_14, nN_15, nN_16, nN_17, nN_18, nN_19, nN_20, nN_21, nN_22, nN_23, nN_24, nN_25, nN_26, nN_27, nN_28, nN_29, nN_30, nN_31, nN_32, nN_33, nN_34, nN_35, nN_36, nN_37, nN_38, nN_39, nN_40, nN_41, nN_42, nN_43, nN_44, nN_45, nN_46, nN_47, nN_48, nN_49, nN_50, nN_51, nN_52, nN_53, nN_54, nR_0_0, nR_0_1, nR_0_2, nR_0_3, nR_0_4, nR_0_5, nR_0_6, nR_0_7, nR_0_8, nR_0_9, nR_0_10, nR_1_0, nR_1_1, nR_1_2, nR_1_3, nR_1_4, nR_2_0, nR_2_1, nR_2_2, nR_2_3, nR_2_4, nR_3_0, nR_3_1, nR_4_2, nR_5_2, nR_6_0, nR_6_1, nR_6_2, nR_7_0, nR_30_2, nR_30_3, nR_30_4, nR_30_6, nR_30_7, nR_30_9, nR_30_10, nR_30_11, nR_30_12, nR_30_13, nR_30_14, nR_30_15, nR_30_16, nR_30_18, nR_30_19, nR_30_20, nR_30_21, nR_30_22, nR_30_23, nR_30_24, nR_30_28, nR_30_29, nR_30_31, inc (show 9 * m + r < 100000 by omega)]
  simp only [mR_30_2, mR_30_3, mR_30_4, mR_30_6, mR_30_7, mR_30_9, mR_30_10, mR_30_11, mR_30_12, mR_30_13, mR_30_14, mR_30_15, mR_30_16, mR_30_18, mR_30_19, mR_30_20, mR_30_21, mR_30_22, mR_30_23, mR_30_24, mR_30_28, mR_30_29, mR_30_31, mR_0_9, mR_7_0, nN_25, nN_26, nN_27, nN_28, nN_29, nN_30, nN_31, nN_32, nN_33, nN_34, nN_35, nN_36, nN_37, nN_38, nN_39, nN_40, nN_41, nN_42, nN_43, nN_44, nN_45, nN_46, nN_47, nN_48, nN_49, nN_50, nN_51, nN_52, nN_53, nN_54, Int.toNat_natCast, hK, (show ho_oadd (ho_omul 9 (m : Int)) (K : Int) = ((9 * m + K : Nat) : Int) from o9 (by omega) (by omega))]
  refine ⟨by omega, fun c1 => ⟨by omega, by omega, fun c2 => ?_, fun c2 => ?_⟩, fun c1 => hKE _ (h b hb (fun w hw => hf w (by omega)))⟩
  · refine hKK _ _ (K - (r + 1)) (by omega) ⟨r + 1, r, by omega, by omega, rfl, rfl, rfl, fun w hw => ?_⟩
    by_cases q : w = r
    · subst q; exact Int.le_refl _
    · have := hf w (by omega); omega
  · refine hKK _ _ (K - (r + 1)) (by omega) ⟨r + 1, b, by omega, by omega, rfl, rfl, rfl, fun w hw => ?_⟩
    by_cases q : w = r
    · subst q; exact c2
    · exact hf w (by omega)
def pMk (k j : Nat) : Bool := Nat.beq k 45 || (Nat.beq k 46 || (Nat.beq k 47 || (Nat.beq k 48 || (Nat.beq k 49 || (Nat.beq k 50 || (Nat.beq k 30 && Nat.beq j 17))))))
/-- row k now is row q then -/
def rowE (τ : ho_S) (k : Nat) (σ : ho_S) (q : Nat) : Prop := τ 46 k = σ 46 q ∧ τ 48 k = σ 48 q ∧ τ 50 k = σ 50 q ∧ ∀ i, i < 60 → τ 47 (60 * k + i) = σ 47 (60 * q + i) ∧ τ 49 (60 * k + i) = σ 49 (60 * q + i)
theorem rowE_rf {σ : ho_S} {k : Nat} : rowE σ k σ k := ⟨rfl, rfl, rfl, fun _ _ => ⟨rfl, rfl⟩⟩
theorem rowE_tv {σ τ : ho_S} {k q : Nat} (h : rowE τ k σ q) (h1 : σ 46 q ≤ 60) (h2 : σ 48 q ≤ 60) : tv (τ 47) (τ 46) k = tv (σ 47) (σ 46) q ∧ tv (τ 49) (τ 48) k = tv (σ 49) (σ 48) q := by
  obtain ⟨a, b, c, d⟩ := h
  exact ⟨tv_eq a (fun i hi => (d i (by omega)).1), tv_eq b (fun i hi => (d i (by omega)).2)⟩
theorem sp_movesDown {m K r : Nat} {σ : ho_S} {Q : ho_K} {X : ho_X} (hm : m < 2) (hK : σ 45 m = ((K + 1 : Nat) : Int)) (hK9 : K ≤ 8) (hr : r ≤ K)
    (h : ∀ σ', sm pMk σ σ' → σ' 30 17 = σ 30 17 → σ' 45 m = (K : Int) → (∀ j, j ≠ m → σ' 45 j = σ 45 j) → (∀ k, (9 * m + r ≤ k ∧ k < 9 * m + K → rowE σ' k σ (k + 1)) ∧ (k < 9 * m + r ∨ 9 * m + K ≤ k → rowE σ' k σ k)) → Q 0 σ') : mX7_movesDown [30, (m : Int), ((9 * m + r : Nat) : Int)] σ Q X := by
  have e0 : ho_osub ((K + 1 : Nat) : Int) 1 = (K : Int) := odec (by omega)
  simp only [mX7_movesDown, fX7_movesDown, u_eC, u_eV, u_eF, u_eR, u_eI, u_eL, u_eB, u_eD, u_eM, u_eU, u_aN, u_aC, u_eK, u_eT, u_cLt, u_cLe, u_cGt, u_cGe, u_cEq, u_cNe, u_cAnd, u_cOr, u_cNot, u_zN, u_zS, u_zD, u_zL, u_zI, u_zB, u_zP, u_zF, u_zA, u_zU, u_zC, u_zR, u_zRZ, u_zRC, u_zRV, u_zT, u_zE, u_zK, u_zY, ho_nid, List.getD_cons_zero, List.getD_cons_succ, List.set_cons_zero, List.set_cons_succ, List.cons_append, List.nil_append, List.take_succ_cons, List.take_zero, Int.reduceToNat, Int.toNat_natCast, nN_0, nN_1, nN_2, nN_3, nN_4, nN_5, nN_6, nN_7, nN_8, nN_9, nN_10, nN_11, nN_12, nN_13, nN_14, nN_15, nN_16, nN_17, nN_18, nN_19, nN_20, nN_21, nN_22, nN_23, nN_24, nN_25, nN_26, nN_27, nN_28, nN_29, nN_30, nN_31, nN_32, nN_33, nN_34, nN_35, nN_36, nN_37, nN_38, nN_39, nN_40, nN_41, nN_42, nN_43, nN_44, nN_45, nN_46, nN_47, nN_48, nN_49, nN_50, nN_51, nN_52, nN_53, nN_54, nR_0_0, nR_0_1, nR_0_2, nR_0_3, nR_0_4, nR_0_5, nR_0_6, nR_0_7, nR_0_8, nR_0_9, nR_0_10, nR_1_0, nR_1_1, nR_1_2, nR_1_3, nR_1_4, nR_2_0, nR_2_1, nR_2_2, nR_2_3, nR_2_4, nR_3_0, nR_3_1, nR_4_2, nR_5_2, nR_6_0, nR_6_1, nR_6_2, nR_7_0, nR_30_2, nR_30_3, nR_30_4, nR_30_6, nR_30_7, nR_30_9, nR_30_10, nR_30_11, nR_30_12, nR_30_13, nR_30_14, nR_30_15, nR_30_16, nR_30_18, nR_30_19, nR_30_20, nR_30_21, nR_30_22, nR_30_23, nR_30_24, nR_30_28, nR_30_29, nR_30_31]
  simp only [mR_30_2, mR_30_3, mR_30_4, mR_30_6, mR_30_7, mR_30_9, mR_30_10, mR_30_11, mR_30_12, mR_30_13, mR_30_14, mR_30_15, mR_30_16, mR_30_18, mR_30_19, mR_30_20, mR_30_21, mR_30_22, mR_30_23, mR_30_24, mR_30_28, mR_30_29, mR_30_31, mR_0_9, mR_7_0, nN_25, nN_26, nN_27, nN_28, nN_29, nN_30, nN_31, nN_32, nN_33, nN_34, nN_35, nN_36, nN_37, nN_38, nN_39, nN_40, nN_41, nN_42, nN_43, nN_44, nN_45, nN_46, nN_47, nN_48, nN_49, nN_50, nN_51, nN_52, nN_53, nN_54, Int.toNat_natCast, hK, e0]
  refine ⟨by omega, ?_⟩
  refine zW_rule (fun v σ' z => ∃ x : Nat, r ≤ x ∧ x ≤ K ∧ v = [30, (m : Int), ((9 * m + r : Nat) : Int), ((9 * m + x : Nat) : Int)] ∧ z = K - x ∧ sm pMk σ σ' ∧ σ' 30 17 = σ 30 17 ∧ σ' 45 m = (K : Int) ∧ (∀ j, j ≠ m → σ' 45 j = σ 45 j) ∧ (∀ k, (9 * m + r ≤ k ∧ k < 9 * m + x → rowE σ' k σ (k + 1)) ∧ (k < 9 * m + r ∨ 9 * m + x ≤ k → rowE σ' k σ k))) _ ⟨r, Nat.le_refl _, hr, rfl, rfl, sm_up sm_rf rfl, rfl, ho_upE, fun j hj => ho_upJ hj, fun k => ⟨fun z => by omega, fun _ => ⟨rfl, rfl, rfl, fun _ _ => ⟨rfl, rfl⟩⟩⟩⟩ ?_
  rintro v σ' z ⟨x, hx0, hx, rfl, rfl, hs, hch, h45, h45', hrow⟩ KK KE hKK hKE
  simp only [u_eC, u_eV, u_eF, u_eR, u_eI, u_eL, u_eB, u_eD, u_eM, u_eU, u_aN, u_aC, u_eK, u_eT, u_cLt, u_cLe, u_cGt, u_cGe, u_cEq, u_cNe, u_cAnd, u_cOr, u_cNot, u_zN, u_zS, u_zD, u_zL, u_zI, u_zB, u_zP, u_zF, u_zA, u_zU, u_zC, u_zR, u_zRZ, u_zRC, u_zRV, u_zT, u_zE, u_zK, u_zY, ho_nid, List.getD_cons_zero, List.getD_cons_succ, List.set_cons_zero, List.set_cons_succ, List.cons_append, List.nil_append, List.take_succ_cons, List.take_zero, Int.reduceToNat, Int.toNat_natCast, nN_0, nN_1, nN_2, nN_3, nN_4, nN_5, nN_6, nN_7, nN_8, nN_9, nN_10, nN_11, nN_12, nN_13, nN_14, nN_15, nN_16, nN_17, nN_18, nN_19, nN_20, nN_21, nN_22, nN_23, nN_24, nN_25, nN_26, nN_27, nN_28, nN_29, nN_30, nN_31, nN_32, nN_33, nN_34, nN_35, nN_36, nN_37, nN_38, nN_39, nN_40, nN_41, nN_42, nN_43, nN_44, nN_45, nN_46, nN_47, nN_48, nN_49, nN_50, nN_51, nN_52, nN_53, nN_54, nR_0_0, nR_0_1, nR_0_2, nR_0_3, nR_0_4, nR_0_5, nR_0_6, nR_0_7, nR_0_8, nR_0_9, nR_0_10, nR_1_0, nR_1_1, nR_1_2, nR_1_3, nR_1_4, nR_2_0, nR_2_1, nR_2_2, nR_2_3, nR_2_4, nR_3_0, nR_3_1, nR_4_2, nR_5_2, nR_6_0, nR_6_1, nR_6_2, nR_7_0, nR_30_2, nR_30_3, nR_30_4, nR_30_6, nR_30_7, nR_30_9, nR_30_10, nR_30_11, nR_30_12, nR_30_13, nR_30_14, nR_30_15, nR_30_16, nR_30_18, nR_30_19, nR_30_20, nR_30_21, nR_30_22, nR_30_23, nR_30_24, nR_30_28, nR_30_29, nR_30_31, inc (show 9 * m + x < 100000 by omega)]
  simp only [mR_30_2, mR_30_3, mR_30_4, mR_30_6, mR_30_7, mR_30_9, mR_30_10, mR_30_11, mR_30_12, mR_30_13, mR_30_14, mR_30_15, mR_30_16, mR_30_18, mR_30_19, mR_30_20, mR_30_21, mR_30_22, mR_30_23, mR_30_24, mR_30_28, mR_30_29, mR_30_31, mR_0_9, mR_7_0, nN_25, nN_26, nN_27, nN_28, nN_29, nN_30, nN_31, nN_32, nN_33, nN_34, nN_35, nN_36, nN_37, nN_38, nN_39, nN_40, nN_41, nN_42, nN_43, nN_44, nN_45, nN_46, nN_47, nN_48, nN_49, nN_50, nN_51, nN_52, nN_53, nN_54, Int.toNat_natCast, saF, saE, ho_upF, ho_upE, ne_eq, not_false_eq_true, Nat.reduceEqDiff, h45, (show ho_oadd (ho_omul 9 (m : Int)) (K : Int) = ((9 * m + K : Nat) : Int) from o9 (by omega) (by omega)), (show ho_oadd ((9 * m + x : Nat) : Int) 1 = ((9 * m + x + 1 : Nat) : Int) from oinc (by omega))]
  refine ⟨by omega, fun c1 => ?_, fun c1 => hKE _ (h σ' hs hch h45 h45' (fun k => ?_))⟩
  · have hxK : x < K := by omega
    refine ⟨by omega, by omega, by omega, by omega, by omega, by omega, ?_⟩
    obtain ⟨τ, hτ⟩ : ∃ τ, τ = ho_up (ho_up (ho_up σ' 46 (9 * m + x) (σ' 46 (9 * m + x + 1))) 48 (9 * m + x) (σ' 48 (9 * m + x + 1))) 50 (9 * m + x) (σ' 50 (9 * m + x + 1)) := ⟨_, rfl⟩
    have t47 : τ 47 = σ' 47 := by rw [hτ]; rfl
    have t49 : τ 49 = σ' 49 := by rw [hτ]; rfl
    have t45 : τ 45 = σ' 45 := by rw [hτ]; rfl
    have t30 : τ 30 = σ' 30 := by rw [hτ]; rfl
    have t46 : ∀ j, τ 46 j = if j = 9 * m + x then σ' 46 (j + 1) else σ' 46 j := fun j => by
      rw [hτ]
      show ho_up σ' 46 (9 * m + x) (σ' 46 (9 * m + x + 1)) 46 j = _
      rw [ho_upA]
      by_cases q : j = 9 * m + x
      · rw [if_pos q, if_pos q, q]
      · rw [if_neg q, if_neg q]
    have t48 : ∀ j, τ 48 j = if j = 9 * m + x then σ' 48 (j + 1) else σ' 48 j := fun j => by
      rw [hτ]
      show ho_up σ' 48 (9 * m + x) (σ' 48 (9 * m + x + 1)) 48 j = _
      rw [ho_upA]
      by_cases q : j = 9 * m + x
      · rw [if_pos q, if_pos q, q]
      · rw [if_neg q, if_neg q]
    have t50 : ∀ j, τ 50 j = if j = 9 * m + x then σ' 50 (j + 1) else σ' 50 j := fun j => by
      rw [hτ]
      show ho_up σ' 50 (9 * m + x) (σ' 50 (9 * m + x + 1)) 50 j = _
      rw [ho_upA]
      by_cases q : j = 9 * m + x
      · rw [if_pos q, if_pos q, q]
      · rw [if_neg q, if_neg q]
    have sτ : sm pMk σ' τ := by rw [hτ]; exact sm_up (sm_up (sm_up sm_rf rfl) rfl) rfl
    have goal0 : ∀ Q9 : List Int → ho_S → Prop, (∀ σ1, (K - (x + 1) < K - x) ∧ (∃ w : Nat, r ≤ w ∧ w ≤ K ∧ [30, (m : Int), ((9 * m + r : Nat) : Int), ((9 * m + x + 1 : Nat) : Int)] = [30, (m : Int), ((9 * m + r : Nat) : Int), ((9 * m + w : Nat) : Int)] ∧ K - (x + 1) = K - w ∧ sm pMk σ σ1 ∧ σ1 30 17 = σ 30 17 ∧ σ1 45 m = (K : Int) ∧ (∀ j, j ≠ m → σ1 45 j = σ 45 j) ∧ (∀ k, (9 * m + r ≤ k ∧ k < 9 * m + w → rowE σ1 k σ (k + 1)) ∧ (k < 9 * m + r ∨ 9 * m + w ≤ k → rowE σ1 k σ k))) → Q9 [30, (m : Int), ((9 * m + r : Nat) : Int), ((9 * m + x : Nat) : Int), 60] σ1) → zW (cLt (eV 4) (eC 60)) (zS (zS (zA ho_nid (eR (eV 0) 21) (eB ho_oadd (eB ho_omul (eC 60) (eV 3)) (eV 4)) (eI (eR (eV 0) 21) (eB ho_oadd (eB ho_omul (eC 60) (eB ho_oadd (eV 3) (eC 1))) (eV 4)))) (zA ho_nid (eR (eV 0) 23) (eB ho_oadd (eB ho_omul (eC 60) (eV 3)) (eV 4)) (eI (eR (eV 0) 23) (eB ho_oadd (eB ho_omul (eC 60) (eB ho_oadd (eV 3) (eC 1))) (eV 4))))) (zI 4 1)) [30, (m : Int), ((9 * m + r : Nat) : Int), ((9 * m + x : Nat) : Int), 0] τ Q9 (fun r σ => Q r σ) X := by
      intro Q9 hQ9
      refine zW_rule (fun v σ1 z => ∃ i : Nat, i ≤ 60 ∧ v = [30, (m : Int), ((9 * m + r : Nat) : Int), ((9 * m + x : Nat) : Int), (i : Int)] ∧ z = 60 - i ∧ sm (fun k _ => Nat.beq k 47 || Nat.beq k 49) τ σ1 ∧ (∀ q, σ1 47 q = if 60 * (9 * m + x) ≤ q ∧ q < 60 * (9 * m + x) + i then τ 47 (q + 60) else τ 47 q) ∧ (∀ q, σ1 49 q = if 60 * (9 * m + x) ≤ q ∧ q < 60 * (9 * m + x) + i then τ 49 (q + 60) else τ 49 q)) _ ⟨0, by omega, rfl, rfl, sm_rf, fun q => by rw [if_neg (by omega)], fun q => by rw [if_neg (by omega)]⟩ ?_
      rintro v σ1 z ⟨i, hi, rfl, rfl, s1, g1, g2⟩ K2 KE2 hK2 hE2
      simp only [u_eC, u_eV, u_eF, u_eR, u_eI, u_eL, u_eB, u_eD, u_eM, u_eU, u_aN, u_aC, u_eK, u_eT, u_cLt, u_cLe, u_cGt, u_cGe, u_cEq, u_cNe, u_cAnd, u_cOr, u_cNot, u_zN, u_zS, u_zD, u_zL, u_zI, u_zB, u_zP, u_zF, u_zA, u_zU, u_zC, u_zR, u_zRZ, u_zRC, u_zRV, u_zT, u_zE, u_zK, u_zY, ho_nid, List.getD_cons_zero, List.getD_cons_succ, List.set_cons_zero, List.set_cons_succ, List.cons_append, List.nil_append, List.take_succ_cons, List.take_zero, Int.reduceToNat, Int.toNat_natCast, nN_0, nN_1, nN_2, nN_3, nN_4, nN_5, nN_6, nN_7, nN_8, nN_9, nN_10, nN_11, nN_12, nN_13, nN_14, nN_15, nN_16, nN_17, nN_18, nN_19, nN_20, nN_21, nN_22, nN_23, nN_24, nN_25, nN_26, nN_27, nN_28, nN_29, nN_30, nN_31, nN_32, nN_33, nN_34, nN_35, nN_36, nN_37, nN_38, nN_39, nN_40, nN_41, nN_42, nN_43, nN_44, nN_45, nN_46, nN_47, nN_48, nN_49, nN_50, nN_51, nN_52, nN_53, nN_54, nR_0_0, nR_0_1, nR_0_2, nR_0_3, nR_0_4, nR_0_5, nR_0_6, nR_0_7, nR_0_8, nR_0_9, nR_0_10, nR_1_0, nR_1_1, nR_1_2, nR_1_3, nR_1_4, nR_2_0, nR_2_1, nR_2_2, nR_2_3, nR_2_4, nR_3_0, nR_3_1, nR_4_2, nR_5_2, nR_6_0, nR_6_1, nR_6_2, nR_7_0, nR_30_2, nR_30_3, nR_30_4, nR_30_6, nR_30_7, nR_30_9, nR_30_10, nR_30_11, nR_30_12, nR_30_13, nR_30_14, nR_30_15, nR_30_16, nR_30_18, nR_30_19, nR_30_20, nR_30_21, nR_30_22, nR_30_23, nR_30_24, nR_30_28, nR_30_29, nR_30_31, inc (show i < 100000 by omega)]
      simp only [mR_30_2, mR_30_3, mR_30_4, mR_30_6, mR_30_7, mR_30_9, mR_30_10, mR_30_11, mR_30_12, mR_30_13, mR_30_14, mR_30_15, mR_30_16, mR_30_18, mR_30_19, mR_30_20, mR_30_21, mR_30_22, mR_30_23, mR_30_24, mR_30_28, mR_30_29, mR_30_31, mR_0_9, mR_7_0, nN_25, nN_26, nN_27, nN_28, nN_29, nN_30, nN_31, nN_32, nN_33, nN_34, nN_35, nN_36, nN_37, nN_38, nN_39, nN_40, nN_41, nN_42, nN_43, nN_44, nN_45, nN_46, nN_47, nN_48, nN_49, nN_50, nN_51, nN_52, nN_53, nN_54, Int.toNat_natCast, saF, saE, ho_upF, ho_upE, ne_eq, not_false_eq_true, Nat.reduceEqDiff, (show ho_oadd (ho_omul 60 ((9 * m + x : Nat) : Int)) (i : Int) = ((60 * (9 * m + x) + i : Nat) : Int) from o60 (by omega) (by omega)), (show ho_oadd ((9 * m + x : Nat) : Int) 1 = ((9 * m + x + 1 : Nat) : Int) from oinc (by omega)), (show ho_oadd (ho_omul 60 ((9 * m + x + 1 : Nat) : Int)) (i : Int) = ((60 * (9 * m + x + 1) + i : Nat) : Int) from o60 (by omega) (by omega))]
      refine ⟨fun c2 => ⟨by omega, by omega, by omega, by omega, hK2 _ _ (60 - (i + 1)) (by omega) ⟨i + 1, by omega, rfl, rfl, sm_up (sm_up s1 rfl) rfl, fun q => ?_, fun q => ?_⟩⟩, fun c2 => hE2 _ ?_⟩
      · show ho_up σ1 47 (60 * (9 * m + x) + i) (σ1 47 (60 * (9 * m + x + 1) + i)) 47 q = _
        rw [ho_upA]
        by_cases w : q = 60 * (9 * m + x) + i
        · rw [if_pos w, if_pos (by omega), g1, if_neg (by omega)]; congr 1; omega
        · rw [if_neg w, g1]
          by_cases w2 : 60 * (9 * m + x) ≤ q ∧ q < 60 * (9 * m + x) + i
          · rw [if_pos w2, if_pos (by omega)]
          · rw [if_neg w2, if_neg (by omega)]
      · show ho_up _ 49 (60 * (9 * m + x) + i) (σ1 49 (60 * (9 * m + x + 1) + i)) 49 q = _
        rw [ho_upA]
        by_cases w : q = 60 * (9 * m + x) + i
        · rw [if_pos w, if_pos (by omega), g2, if_neg (by omega)]; congr 1; omega
        · rw [if_neg w]
          show σ1 49 q = _
          rw [g2]
          by_cases w2 : 60 * (9 * m + x) ≤ q ∧ q < 60 * (9 * m + x) + i
          · rw [if_pos w2, if_pos (by omega)]
          · rw [if_neg w2, if_neg (by omega)]
      · have hi60 : i = 60 := by omega
        subst hi60
        have s2 : sm pMk σ' σ1 := sm_tr sτ (sm_mo s1 (fun k j z => by
          unfold pMk at z
          cases a : Nat.beq k 47 <;> cases b : Nat.beq k 49 <;> simp [a, b] at z ⊢))
        have u45 : σ1 45 = σ' 45 := (sm_fn s1 45 (fun _ => rfl)).trans t45
        have u30 : σ1 30 = σ' 30 := (sm_fn s1 30 (fun _ => rfl)).trans t30
        have u46 : σ1 46 = τ 46 := sm_fn s1 46 (fun _ => rfl)
        have u48 : σ1 48 = τ 48 := sm_fn s1 48 (fun _ => rfl)
        have u50 : σ1 50 = τ 50 := sm_fn s1 50 (fun _ => rfl)
        refine hQ9 σ1 ⟨by omega, x + 1, by omega, by omega, rfl, rfl, sm_tr hs s2, by rw [u30]; exact hch, by rw [u45]; exact h45, fun j hj => by rw [u45]; exact h45' j hj, fun k => ⟨fun a => ?_, fun a => ?_⟩⟩
        · by_cases q : k = 9 * m + x
          · obtain ⟨b1, b2, b3, b4⟩ := (hrow (k + 1)).2 (Or.inr (by omega))
            refine ⟨?_, ?_, ?_, fun i hi => ⟨?_, ?_⟩⟩
            · rw [u46, t46, if_pos q]; exact b1
            · rw [u48, t48, if_pos q]; exact b2
            · rw [u50, t50, if_pos q]; exact b3
            · rw [g1, if_pos (by omega), t47, show 60 * k + i + 60 = 60 * (k + 1) + i by omega]; exact (b4 i hi).1
            · rw [g2, if_pos (by omega), t49, show 60 * k + i + 60 = 60 * (k + 1) + i by omega]; exact (b4 i hi).2
          · obtain ⟨b1, b2, b3, b4⟩ := (hrow k).1 (by omega)
            refine ⟨?_, ?_, ?_, fun i hi => ⟨?_, ?_⟩⟩
            · rw [u46, t46, if_neg q]; exact b1
            · rw [u48, t48, if_neg q]; exact b2
            · rw [u50, t50, if_neg q]; exact b3
            · rw [g1, if_neg (by omega), t47]; exact (b4 i hi).1
            · rw [g2, if_neg (by omega), t49]; exact (b4 i hi).2
        · have q : k ≠ 9 * m + x := by omega
          obtain ⟨b1, b2, b3, b4⟩ := (hrow k).2 (by omega)
          refine ⟨?_, ?_, ?_, fun i hi => ⟨?_, ?_⟩⟩
          · rw [u46, t46, if_neg q]; exact b1
          · rw [u48, t48, if_neg q]; exact b2
          · rw [u50, t50, if_neg q]; exact b3
          · rw [g1, if_neg (by omega), t47]; exact (b4 i hi).1
          · rw [g2, if_neg (by omega), t49]; exact (b4 i hi).2
    rw [hτ] at goal0
    refine goal0 _ (fun σ1 hσ1 => ?_)
    simp only [u_eC, u_eV, u_eF, u_eR, u_eI, u_eL, u_eB, u_eD, u_eM, u_eU, u_aN, u_aC, u_eK, u_eT, u_cLt, u_cLe, u_cGt, u_cGe, u_cEq, u_cNe, u_cAnd, u_cOr, u_cNot, u_zN, u_zS, u_zD, u_zL, u_zI, u_zB, u_zP, u_zF, u_zA, u_zU, u_zC, u_zR, u_zRZ, u_zRC, u_zRV, u_zT, u_zE, u_zK, u_zY, ho_nid, List.getD_cons_zero, List.getD_cons_succ, List.set_cons_zero, List.set_cons_succ, List.cons_append, List.nil_append, List.take_succ_cons, List.take_zero, Int.reduceToNat, Int.toNat_natCast, nN_0, nN_1, nN_2, nN_3, nN_4, nN_5, nN_6, nN_7, nN_8, nN_9, nN_10, nN_11, nN_12, nN_13, nN_14, nN_15, nN_16, nN_17, nN_18, nN_19, nN_20, nN_21, nN_22, nN_23, nN_24, nN_25, nN_26, nN_27, nN_28, nN_29, nN_30, nN_31, nN_32, nN_33, nN_34, nN_35, nN_36, nN_37, nN_38, nN_39, nN_40, nN_41, nN_42, nN_43, nN_44, nN_45, nN_46, nN_47, nN_48, nN_49, nN_50, nN_51, nN_52, nN_53, nN_54, nR_0_0, nR_0_1, nR_0_2, nR_0_3, nR_0_4, nR_0_5, nR_0_6, nR_0_7, nR_0_8, nR_0_9, nR_0_10, nR_1_0, nR_1_1, nR_1_2, nR_1_3, nR_1_4, nR_2_0, nR_2_1, nR_2_2, nR_2_3, nR_2_4, nR_3_0, nR_3_1, nR_4_2, nR_5_2, nR_6_0, nR_6_1, nR_6_2, nR_7_0, nR_30_2, nR_30_3, nR_30_4, nR_30_6, nR_30_7, nR_30_9, nR_30_10, nR_30_11, nR_30_12, nR_30_13, nR_30_14, nR_30_15, nR_30_16, nR_30_18, nR_30_19, nR_30_20, nR_30_21, nR_30_22, nR_30_23, nR_30_24, nR_30_28, nR_30_29, nR_30_31, inc (show 9 * m + x < 100000 by omega)]
    exact hKK _ _ (K - (x + 1)) hσ1.1 hσ1.2
  · have : x = K := by omega
    subst this
    exact hrow k
