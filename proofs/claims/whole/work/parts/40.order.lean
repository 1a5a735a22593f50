-- the order of captions
abbrev ahd (st : Nat → Int) (c d : Nat) : Prop := st c < st d ∨ (st c = st d ∧ c < d)
/-- the first n of f are those of the first M that have a time, in order -/
def SRT (f : Nat → Int) (n M : Nat) (st : Nat → Int) (ti : Nat → Prop) : Prop :=
  ∃ g : Nat → Nat, (∀ i, i < n → f i = (g i : Int) ∧ g i < M ∧ ti (g i)) ∧ (∀ c, c < M → ti c → ∃ i, i < n ∧ g i = c) ∧ ∀ i j, i < j → j < n → ahd st (g i) (g j)
theorem SRT_skip {f : Nat → Int} {n M : Nat} {st : Nat → Int} {ti : Nat → Prop} (h : SRT f n M st ti) (hM : ¬ ti M) : SRT f n (M + 1) st ti := by
  obtain ⟨g, h1, h2, h3⟩ := h
  refine ⟨g, fun i hi => ⟨(h1 i hi).1, by have := (h1 i hi).2.1; omega, (h1 i hi).2.2⟩, fun c hc ht => ?_, h3⟩
  by_cases q : c = M
  · subst q; exact absurd ht hM
  · exact h2 c (by omega) ht
theorem SRT_put {f f' : Nat → Int} {n M k : Nat} {st : Nat → Int} {ti : Nat → Prop} {g : Nat → Nat} (h1 : ∀ i, i < n → f i = (g i : Int) ∧ g i < M ∧ ti (g i)) (h2 : ∀ c, c < M → ti c → ∃ i, i < n ∧ g i = c) (h3 : ∀ i j, i < j → j < n → ahd st (g i) (g j))
    (hM : ti M) (hk : k ≤ n) (hlow : k = 0 ∨ st (g (k - 1)) ≤ st M) (hhigh : ∀ i, k ≤ i → i < n → st M < st (g i)) (f1 : ∀ i, i < k → f' i = f i) (f2 : f' k = (M : Int)) (f3 : ∀ i, k ≤ i → i < n → f' (i + 1) = f i) : SRT f' (n + 1) (M + 1) st ti := by
  refine ⟨fun i => if i < k then g i else if i = k then M else g (i - 1), fun i hi => ?_, fun c hc ht => ?_, fun i j hij hj => ?_⟩
  · dsimp only
    by_cases q1 : i < k
    · rw [if_pos q1, f1 i q1]
      have := h1 i (by omega)
      exact ⟨this.1, by omega, this.2.2⟩
    · rw [if_neg q1]
      by_cases q2 : i = k
      · rw [if_pos q2]; subst q2; exact ⟨f2, by omega, hM⟩
      · rw [if_neg q2]
        have a := f3 (i - 1) (by omega) (by omega)
        have b := h1 (i - 1) (by omega)
        rw [show i - 1 + 1 = i by omega] at a
        rw [a]
        exact ⟨b.1, by omega, b.2.2⟩
  · by_cases q : c = M
    · exact ⟨k, by omega, by dsimp only; rw [if_neg (by omega), if_pos rfl, q]⟩
    · obtain ⟨i, hi, e⟩ := h2 c (by omega) ht
      by_cases q1 : i < k
      · exact ⟨i, by omega, by dsimp only; rw [if_pos q1, e]⟩
      · exact ⟨i + 1, by omega, by dsimp only; rw [if_neg (by omega), if_neg (by omega), show i + 1 - 1 = i by omega, e]⟩
  · dsimp only
    have low : ∀ i, i < k → ahd st (g i) M := fun i hi => by
      have a := h1 i (by omega)
      rcases hlow with z | z
      · omega
      · by_cases q : i = k - 1
        · subst q; unfold ahd; omega
        · have := h3 i (k - 1) (by omega) (by omega)
          unfold ahd at this ⊢
          omega
    by_cases q1 : i < k
    · rw [if_pos q1]
      by_cases q2 : j < k
      · rw [if_pos q2]; exact h3 i j hij (by omega)
      · rw [if_neg q2]
        by_cases q3 : j = k
        · rw [if_pos q3]; exact low i q1
        · rw [if_neg q3]; exact h3 i (j - 1) (by omega) (by omega)
    · rw [if_neg q1, if_neg (show ¬ j < k by omega), if_neg (show ¬ j = k by omega)]
      by_cases q2 : i = k
      · rw [if_pos q2]; exact Or.inl (hhigh (j - 1) (by omega) (by omega))
      · rw [if_neg q2]; exact h3 (i - 1) (j - 1) (by omega) (by omega)
theorem sp_insertCaption {c n : Nat} {σ : ho_S} {Q : ho_K} {X : ho_X} (hc : c < 16) (hn : n ≤ c) (ti : Nat → Prop) (hti : ti c) (hS : SRT (σ 29) n c (σ 13) ti) (h : ∀ σ', sm pOr σ σ' → SRT (σ' 29) (n + 1) (c + 1) (σ 13) ti → Q 0 σ') : mX6_insertCaption [0, (c : Int), (n : Int)] σ Q X := by
  obtain ⟨g, h1, h2, h3⟩ := hS
  simp only [mX6_insertCaption, fX6_insertCaption, u_eC, u_eV, u_eF, u_eR, u_eI, u_eL, u_eB, u_eD, u_eM, u_eU, u_aN, u_aC, u_eK, u_eT, u_cLt, u_cLe, u_cGt, u_cGe, u_cEq, u_cNe, u_cAnd, u_cOr, u_cNot, u_zN, u_zS, u_zD, u_zL, u_zI, u_zB, u_zP, u_zF, u_zA, u_zU, u_zC, u_zR, u_zRZ, u_zRC, u_zRV, u_zT, u_zE, u_zK, u_zY, ho_nid, List.getD_cons_zero, List.getD_cons_succ, List.set_cons_zero, List.set_cons_succ, List.cons_append, List.nil_append, List.take_succ_cons, List.take_zero, Int.reduceToNat, Int.toNat_natCast, nN_0, nN_1, nN_2, nN_3, nN_4, nN_5, nN_6, nN_7, nN_8, nN_9, nN_10, nN_11, nN_12, nN_13, nN_14, nN_15, nN_16, nN_17, nN_18, nN_19, nN_20, nN_21, nN_22, nN_23, nN_24, nN_25, nN_26, nN_27, nN_28, nN_29, nN_30, nN_31, nN_32, nN_33, nN_34, nN_35, nN_36, nN_37, nN_38, nN_39, nN_40, nN_41, nN_42, nN_43, nN_44, nN_45, nN_46, nN_47, nN_48, nN_49, nN_50, nN_51, nN_52, nN_53, nN_54, nR_0_0, nR_0_1, nR_0_2, nR_0_3, nR_0_4, nR_0_5, nR_0_6, nR_0_7, nR_0_8, nR_0_9, nR_0_10, nR_1_0, nR_1_1, nR_1_2, nR_1_3, nR_1_4, nR_2_0, nR_2_1, nR_2_2, nR_2_3, nR_2_4, nR_3_0, nR_3_1, nR_4_2, nR_5_2, nR_6_0, nR_6_1, nR_6_2, nR_7_0, nR_30_2, nR_30_3, nR_30_4, nR_30_6, nR_30_7, nR_30_9, nR_30_10, nR_30_11, nR_30_12, nR_30_13, nR_30_14, nR_30_15, nR_30_16, nR_30_18, nR_30_19, nR_30_20, nR_30_21, nR_30_22, nR_30_23, nR_30_24, nR_30_28, nR_30_29, nR_30_31]
  refine zW_rule (fun v σ' m => ∃ k : Nat, k ≤ n ∧ v = [0, (c : Int), (n : Int), (k : Int)] ∧ m = k ∧ sm pOr σ σ' ∧ (∀ i, i < k → σ' 29 i = σ 29 i) ∧ (∀ i, k ≤ i → i < n → σ' 29 (i + 1) = σ 29 i) ∧ (∀ i, k ≤ i → i < n → σ 13 c < σ 13 (g i))) _ ⟨n, Nat.le_refl _, rfl, rfl, sm_rf, fun i _ => rfl, fun i a b => by omega, fun i a b => by omega⟩ ?_
  rintro v σ' m ⟨k, hk, rfl, hmk, hs, f1, f2, f3⟩ KK KE hKK hKE
  simp only [u_eC, u_eV, u_eF, u_eR, u_eI, u_eL, u_eB, u_eD, u_eM, u_eU, u_aN, u_aC, u_eK, u_eT, u_cLt, u_cLe, u_cGt, u_cGe, u_cEq, u_cNe, u_cAnd, u_cOr, u_cNot, u_zN, u_zS, u_zD, u_zL, u_zI, u_zB, u_zP, u_zF, u_zA, u_zU, u_zC, u_zR, u_zRZ, u_zRC, u_zRV, u_zT, u_zE, u_zK, u_zY, ho_nid, List.getD_cons_zero, List.getD_cons_succ, List.set_cons_zero, List.set_cons_succ, List.cons_append, List.nil_append, List.take_succ_cons, List.take_zero, Int.reduceToNat, Int.toNat_natCast, nN_0, nN_1, nN_2, nN_3, nN_4, nN_5, nN_6, nN_7, nN_8, nN_9, nN_10, nN_11, nN_12, nN_13, nN_14, nN_15, nN_16, nN_17, nN_18, nN_19, nN_20, nN_21, nN_22, nN_23, nN_24, nN_25, nN_26, nN_27, nN_28, nN_29, nN_30, nN_31, nN_32, nN_33, nN_34, nN_35, nN_36, nN_37, nN_38, nN_39, nN_40, nN_41, nN_42, nN_43, nN_44, nN_45, nN_46, nN_47, nN_48, nN_49, nN_50, nN_51, nN_52, nN_53, nN_54, nR_0_0, nR_0_1, nR_0_2, nR_0_3, nR_0_4, nR_0_5, nR_0_6, nR_0_7, nR_0_8, nR_0_9, nR_0_10, nR_1_0, nR_1_1, nR_1_2, nR_1_3, nR_1_4, nR_2_0, nR_2_1, nR_2_2, nR_2_3, nR_2_4, nR_3_0, nR_3_1, nR_4_2, nR_5_2, nR_6_0, nR_6_1, nR_6_2, nR_7_0, nR_30_2, nR_30_3, nR_30_4, nR_30_6, nR_30_7, nR_30_9, nR_30_10, nR_30_11, nR_30_12, nR_30_13, nR_30_14, nR_30_15, nR_30_16, nR_30_18, nR_30_19, nR_30_20, nR_30_21, nR_30_22, nR_30_23, nR_30_24, nR_30_28, nR_30_29, nR_30_31, sp_item, sp_tstart, sp_store]
  have st13 : σ' 13 = σ 13 := sm_fn hs 13 (fun _ => rfl)
  have fin : (k = 0 ∨ σ 13 (g (k - 1)) ≤ σ 13 c) → KE σ' := by
    intro z
    refine hKE _ ?_
    simp only [u_eC, u_eV, u_eF, u_eR, u_eI, u_eL, u_eB, u_eD, u_eM, u_eU, u_aN, u_aC, u_eK, u_eT, u_cLt, u_cLe, u_cGt, u_cGe, u_cEq, u_cNe, u_cAnd, u_cOr, u_cNot, u_zN, u_zS, u_zD, u_zL, u_zI, u_zB, u_zP, u_zF, u_zA, u_zU, u_zC, u_zR, u_zRZ, u_zRC, u_zRV, u_zT, u_zE, u_zK, u_zY, ho_nid, List.getD_cons_zero, List.getD_cons_succ, List.set_cons_zero, List.set_cons_succ, List.cons_append, List.nil_append, List.take_succ_cons, List.take_zero, Int.reduceToNat, Int.toNat_natCast, nN_0, nN_1, nN_2, nN_3, nN_4, nN_5, nN_6, nN_7, nN_8, nN_9, nN_10, nN_11, nN_12, nN_13, nN_14, nN_15, nN_16, nN_17, nN_18, nN_19, nN_20, nN_21, nN_22, nN_23, nN_24, nN_25, nN_26, nN_27, nN_28, nN_29, nN_30, nN_31, nN_32, nN_33, nN_34, nN_35, nN_36, nN_37, nN_38, nN_39, nN_40, nN_41, nN_42, nN_43, nN_44, nN_45, nN_46, nN_47, nN_48, nN_49, nN_50, nN_51, nN_52, nN_53, nN_54, nR_0_0, nR_0_1, nR_0_2, nR_0_3, nR_0_4, nR_0_5, nR_0_6, nR_0_7, nR_0_8, nR_0_9, nR_0_10, nR_1_0, nR_1_1, nR_1_2, nR_1_3, nR_1_4, nR_2_0, nR_2_1, nR_2_2, nR_2_3, nR_2_4, nR_3_0, nR_3_1, nR_4_2, nR_5_2, nR_6_0, nR_6_1, nR_6_2, nR_7_0, nR_30_2, nR_30_3, nR_30_4, nR_30_6, nR_30_7, nR_30_9, nR_30_10, nR_30_11, nR_30_12, nR_30_13, nR_30_14, nR_30_15, nR_30_16, nR_30_18, nR_30_19, nR_30_20, nR_30_21, nR_30_22, nR_30_23, nR_30_24, nR_30_28, nR_30_29, nR_30_31, sp_store]
    rw [si29 (by omega)]
    refine h _ (sm_up hs rfl) (SRT_put h1 h2 h3 hti hk z f3 (fun i hi => ?_) ?_ (fun i a b => ?_))
    · rw [ho_upJ (by omega)]; exact f1 i hi
    · exact ho_upE
    · rw [ho_upJ (by omega)]; exact f2 i a b
  refine ⟨fun c1 => ?_, fun c1 => fin (Or.inl (by omega))⟩
  obtain ⟨w, rfl⟩ : ∃ w, k = w + 1 := ⟨k - 1, by omega⟩
  have gw := h1 w (by omega)
  have e1 : gi σ' 29 (ho_osub ((w + 1 : Nat) : Int) 1) = (g w : Int) := by
    rw [odec (by omega), gi29 (by omega), f1 w (by omega)]
    exact gw.1
  rw [e1, (show gi σ' 13 (g w : Int) = σ 13 (g w) from by rw [gi13 (by omega), st13]), (show gi σ' 13 (c : Int) = σ 13 c from by rw [gi13 (by omega), st13]), (show ho_w (((w + 1 : Nat) : Int) + -1) = (w : Int) from odec (k := w) (by omega)), si29 (by omega)]
  clear e1
  refine ⟨fun c2 => hKK _ _ w (by omega) ⟨w, by omega, rfl, rfl, sm_up hs rfl, fun i hi => ?_, fun i a b => ?_, fun i a b => ?_⟩, fun c2 => fin (Or.inr c2)⟩
  · rw [ho_upJ (by omega)]; exact f1 i (by omega)
  · by_cases q : i = w
    · subst q; rw [ho_upE]; exact gw.1.symm
    · rw [ho_upJ (by omega)]; exact f2 i (by omega) b
  · by_cases q : i = w
    · subst q; exact c2
    · exact f3 i (by omega) b
theorem sp_orderCaptions {M : Nat} {σ : ho_S} {Q : ho_K} {X : ho_X} (hM : σ 0 11 = (M : Int)) (hM1 : M ≤ 16) (h : ∀ σ' n, sm pOr σ σ' → n ≤ M → SRT (σ' 29) n M (σ 13) (fun c => 0 < σ 14 c) → Q (n : Int) σ') : mX6_orderCaptions [0] σ Q X := by
  simp only [mX6_orderCaptions, fX6_orderCaptions, u_eC, u_eV, u_eF, u_eR, u_eI, u_eL, u_eB, u_eD, u_eM, u_eU, u_aN, u_aC, u_eK, u_eT, u_cLt, u_cLe, u_cGt, u_cGe, u_cEq, u_cNe, u_cAnd, u_cOr, u_cNot, u_zN, u_zS, u_zD, u_zL, u_zI, u_zB, u_zP, u_zF, u_zA, u_zU, u_zC, u_zR, u_zRZ, u_zRC, u_zRV, u_zT, u_zE, u_zK, u_zY, ho_nid, List.getD_cons_zero, List.getD_cons_succ, List.set_cons_zero, List.set_cons_succ, List.cons_append, List.nil_append, List.take_succ_cons, List.take_zero, Int.reduceToNat, Int.toNat_natCast, nN_0, nN_1, nN_2, nN_3, nN_4, nN_5, nN_6, nN_7, nN_8, nN_9, nN_10, nN_11, nN_12, nN_13, nN_14, nN_15, nN_16, nN_17, nN_18, nN_19, nN_20, nN_21, nN_22, nN_23, nN_24, nN_25, nN_26, nN_27, nN_28, nN_29, nN_30, nN_31, nN_32, nN_33, nN_34, nN_35, nN_36, nN_37, nN_38, nN_39, nN_40, nN_41, nN_42, nN_43, nN_44, nN_45, nN_46, nN_47, nN_48, nN_49, nN_50, nN_51, nN_52, nN_53, nN_54, nR_0_0, nR_0_1, nR_0_2, nR_0_3, nR_0_4, nR_0_5, nR_0_6, nR_0_7, nR_0_8, nR_0_9, nR_0_10, nR_1_0, nR_1_1, nR_1_2, nR_1_3, nR_1_4, nR_2_0, nR_2_1, nR_2_2, nR_2_3, nR_2_4, nR_3_0, nR_3_1, nR_4_2, nR_5_2, nR_6_0, nR_6_1, nR_6_2, nR_7_0, nR_30_2, nR_30_3, nR_30_4, nR_30_6, nR_30_7, nR_30_9, nR_30_10, nR_30_11, nR_30_12, nR_30_13, nR_30_14, nR_30_15, nR_30_16, nR_30_18, nR_30_19, nR_30_20, nR_30_21, nR_30_22, nR_30_23, nR_30_24, nR_30_28, nR_30_29, nR_30_31]
  refine zW_rule (fun v σ' m => ∃ k n : Nat, k ≤ M ∧ n ≤ k ∧ v = [0, (n : Int), (k : Int)] ∧ m = M - k ∧ sm pOr σ σ' ∧ SRT (σ' 29) n k (σ 13) (fun c => 0 < σ 14 c)) _ ⟨0, 0, by omega, by omega, rfl, rfl, sm_rf, fun i => i, fun i hi => by omega, fun c hc => by omega, fun i j a b => by omega⟩ ?_
  rintro v σ' m ⟨k, n, hk, hnk, rfl, rfl, hs, hS⟩ KK KE hKK hKE
  have e11 : σ' 0 11 = (M : Int) := (hs 0 11 rfl).trans hM
  have st13 : σ' 13 = σ 13 := sm_fn hs 13 (fun _ => rfl)
  have st14 : σ' 14 = σ 14 := sm_fn hs 14 (fun _ => rfl)
  simp only [u_eC, u_eV, u_eF, u_eR, u_eI, u_eL, u_eB, u_eD, u_eM, u_eU, u_aN, u_aC, u_eK, u_eT, u_cLt, u_cLe, u_cGt, u_cGe, u_cEq, u_cNe, u_cAnd, u_cOr, u_cNot, u_zN, u_zS, u_zD, u_zL, u_zI, u_zB, u_zP, u_zF, u_zA, u_zU, u_zC, u_zR, u_zRZ, u_zRC, u_zRV, u_zT, u_zE, u_zK, u_zY, ho_nid, List.getD_cons_zero, List.getD_cons_succ, List.set_cons_zero, List.set_cons_succ, List.cons_append, List.nil_append, List.take_succ_cons, List.take_zero, Int.reduceToNat, Int.toNat_natCast, nN_0, nN_1, nN_2, nN_3, nN_4, nN_5, nN_6, nN_7, nN_8, nN_9, nN_10, nN_11, nN_12, nN_13, nN_14, nN_15, nN_16, nN_17, nN_18, nN_19, nN_20, nN_21, nN_22, nN_23, nN_24, nN_25, nN_26, nN_27, nN_28, nN_29, nN_30, nN_31, nN_32, nN_33, nN_34, nN_35, nN_36, nN_37, nN_38, nN_39, nN_40, nN_41, nN_42, nN_43, nN_44, nN_45, nN_46, nN_47, nN_48, nN_49, nN_50, nN_51, nN_52, nN_53, nN_54, nR_0_0, nR_0_1, nR_0_2, nR_0_3, nR_0_4, nR_0_5, nR_0_6, nR_0_7, nR_0_8, nR_0_9, nR_0_10, nR_1_0, nR_1_1, nR_1_2, nR_1_3, nR_1_4, nR_2_0, nR_2_1, nR_2_2, nR_2_3, nR_2_4, nR_3_0, nR_3_1, nR_4_2, nR_5_2, nR_6_0, nR_6_1, nR_6_2, nR_7_0, nR_30_2, nR_30_3, nR_30_4, nR_30_6, nR_30_7, nR_30_9, nR_30_10, nR_30_11, nR_30_12, nR_30_13, nR_30_14, nR_30_15, nR_30_16, nR_30_18, nR_30_19, nR_30_20, nR_30_21, nR_30_22, nR_30_23, nR_30_24, nR_30_28, nR_30_29, nR_30_31, e11, inc (show k < 100000 by omega), inc (show n < 100000 by omega)]
  refine ⟨fun c1 => ?_, fun c1 => hKE _ ?_⟩
  · refine sp_isIn.mpr ?_
    rw [gi14 (by omega), st14]
    simp only [ite01, ite01e]
    refine ⟨fun c2 => ?_, fun c2 => hKK _ _ (M - (k + 1)) (by omega) ⟨k + 1, n, by omega, by omega, rfl, rfl, hs, SRT_skip hS c2⟩⟩
    refine sp_insertCaption (by omega) hnk (fun c => 0 < σ 14 c) c2 (by rw [st13]; exact hS) (fun σ3 s3 S3 => ?_)
    rw [st13] at S3
    exact hKK _ _ (M - (k + 1)) (by omega) ⟨k + 1, n + 1, by omega, by omega, rfl, rfl, sm_tr hs s3, S3⟩
  · have hkM : k = M := by omega
    subst hkM
    exact h σ' n hs hnk hS
theorem cnt_enum (P : Nat → Bool) : ∀ M, ∃ (N : Nat) (e : Nat → Nat), cnt P M = (N : Int) ∧ (∀ j, j < N → e j < M ∧ P (e j) = true) ∧ (∀ i j, i < N → j < N → e i = e j → i = j) ∧ (∀ k, k < M → P k = true → ∃ j, j < N ∧ e j = k)
  | 0 => ⟨0, fun j => j, rfl, fun j hj => by omega, fun i j hi => by omega, fun k hk => by omega⟩
  | M + 1 => by
    obtain ⟨N, e, h1, h2, h3, h4⟩ := cnt_enum P M
    cases hp : P M
    · refine ⟨N, e, ?_, fun j hj => ⟨by have := (h2 j hj).1; omega, (h2 j hj).2⟩, h3, fun k hk hpk => ?_⟩
      · show cnt P M + (if P M then 1 else 0) = _
        rw [hp, h1]; simp
      · by_cases q : k = M
        · subst q; rw [hp] at hpk; cases hpk
        · exact h4 k (by omega) hpk
    · refine ⟨N + 1, fun j => if j < N then e j else M, ?_, fun j hj => ?_, fun i j hi hj hij => ?_, fun k hk hpk => ?_⟩
      · show cnt P M + (if P M then 1 else 0) = _
        rw [hp, h1]; simp
      · dsimp only
        by_cases q : j < N
        · rw [if_pos q]; exact ⟨by have := (h2 j q).1; omega, (h2 j q).2⟩
        · rw [if_neg q]; exact ⟨by omega, hp⟩
      · dsimp only at hij
        by_cases q : i < N
        · rw [if_pos q] at hij
          by_cases z : j < N
          · rw [if_pos z] at hij; exact h3 i j q z hij
          · rw [if_neg z] at hij; have := (h2 i q).1; omega
        · rw [if_neg q] at hij
          by_cases z : j < N
          · rw [if_pos z] at hij; have := (h2 j z).1; omega
          · omega
      · by_cases q : k = M
        · exact ⟨N, by omega, by dsimp only; rw [if_neg (by omega), q]⟩
        · obtain ⟨j, hj, e1⟩ := h4 k (by omega) hpk
          exact ⟨j, by omega, by dsimp only; rw [if_pos hj, e1]⟩
theorem cnt_bij {P : Nat → Bool} {M n : Nat} {g : Nat → Nat} (h1 : ∀ i, i < n → g i < M ∧ P (g i) = true) (h2 : ∀ k, k < M → P k = true → ∃ i, i < n ∧ g i = k) (h3 : ∀ i j, i < n → j < n → g i = g j → i = j) : cnt P M = (n : Int) := by
  obtain ⟨N, e, e1, e2, e3, e4⟩ := cnt_enum P M
  rw [e1]
  obtain ⟨f, hf⟩ := (Classical.skolem (p := fun (i : Nat) (j : Nat) => i < n → j < N ∧ e j = g i)).mp (fun i => by
    by_cases q : i < n
    · obtain ⟨j, a, b⟩ := e4 (g i) (h1 i q).1 (h1 i q).2
      exact ⟨j, fun _ => ⟨a, b⟩⟩
    · exact ⟨0, fun z => absurd z q⟩)
  obtain ⟨f', hf'⟩ := (Classical.skolem (p := fun (j : Nat) (i : Nat) => j < N → i < n ∧ g i = e j)).mp (fun j => by
    by_cases q : j < N
    · obtain ⟨i, a, b⟩ := h2 (e j) (e2 j q).1 (e2 j q).2
      exact ⟨i, fun _ => ⟨a, b⟩⟩
    · exact ⟨0, fun z => absurd z q⟩)
  have a := pigeon N n f (fun i hi => (hf i hi).1) (fun i j hi hj q => h3 i j hi hj (by rw [← (hf i hi).2, ← (hf j hj).2, q]))
  have b := pigeon n N f' (fun i hi => (hf' i hi).1) (fun i j hi hj q => e3 i j hi hj (by rw [← (hf' i hi).2, ← (hf' j hj).2, q]))
  omega
/-- how many with a time stand ahead of one; the one at a place -/
def rk (st : Nat → Int) (M c : Nat) : Int := cnt (fun k => decide (st k ≠ -1 ∧ ahd st k c)) M
def cap (st : Nat → Int) (M : Nat) (p : Int) : Nat → Int
  | 0 => -1
  | c + 1 => if st c ≠ -1 ∧ rk st M c = p then (c : Int) else cap st M p c
theorem rk_eq {f : Nat → Int} {n M : Nat} {st : Nat → Int} {g : Nat → Nat} (h1 : ∀ i, i < n → f i = (g i : Int) ∧ g i < M ∧ st (g i) ≠ -1) (h2 : ∀ c, c < M → st c ≠ -1 → ∃ i, i < n ∧ g i = c) (h3 : ∀ i j, i < j → j < n → ahd st (g i) (g j)) {i : Nat} (hi : i < n) : rk st M (g i) = (i : Int) := by
  unfold rk
  refine cnt_bij (g := g) (fun j hj => ⟨(h1 j (by omega)).2.1, by simp only [decide_eq_true_eq]; exact ⟨(h1 j (by omega)).2.2, h3 j i hj hi⟩⟩) (fun k hk hp => ?_) (fun a b ha hb e => ?_)
  · simp only [decide_eq_true_eq] at hp
    obtain ⟨j, hj, rfl⟩ := h2 k hk hp.1
    refine ⟨j, ?_, rfl⟩
    have h4 := hp.2
    unfold ahd at h4
    rcases Nat.lt_trichotomy j i with z | z | z
    · exact z
    · subst z; omega
    · have := h3 i j z hj
      unfold ahd at this
      omega
  · rcases Nat.lt_trichotomy a b with z | z | z
    · have := h3 a b z (by omega)
      unfold ahd at this
      rw [e] at this
      omega
    · exact z
    · have := h3 b a z (by omega)
      unfold ahd at this
      rw [e] at this
      omega
theorem cap_none {st : Nat → Int} {M : Nat} {p : Int} (k : Nat) (h : ∀ c, c < k → ¬ (st c ≠ -1 ∧ rk st M c = p)) : cap st M p k = -1 := by
  induction k with
  | zero => rfl
  | succ k ih =>
    show (if st k ≠ -1 ∧ rk st M k = p then (k : Int) else cap st M p k) = -1
    rw [if_neg (h k (by omega))]
    exact ih (fun c hc => h c (by omega))
theorem cap_one {st : Nat → Int} {M d : Nat} {p : Int} (k : Nat) (hd : d < k) (h0 : st d ≠ -1 ∧ rk st M d = p) (h : ∀ c, c < k → st c ≠ -1 ∧ rk st M c = p → c = d) : cap st M p k = (d : Int) := by
  induction k with
  | zero => omega
  | succ k ih =>
    show (if st k ≠ -1 ∧ rk st M k = p then (k : Int) else cap st M p k) = d
    by_cases q : st k ≠ -1 ∧ rk st M k = p
    · rw [if_pos q, h k (by omega) q]
    · rw [if_neg q]
      have : d ≠ k := fun z => q (z ▸ h0)
      exact ih (by omega) (fun c hc => h c (by omega))
theorem cap_srt {f : Nat → Int} {n M : Nat} {st : Nat → Int} (h : SRT f n M st (fun c => st c ≠ -1)) {p : Int} (hp : 0 ≤ p) : (p < n → cap st M p M = f p.toNat) ∧ ((n : Int) ≤ p → cap st M p M = -1) := by
  obtain ⟨g, h1, h2, h3⟩ := h
  refine ⟨fun c => ?_, fun c => ?_⟩
  · have hi : p.toNat < n := by omega
    rw [(h1 _ hi).1]
    refine cap_one M (h1 _ hi).2.1 ⟨(h1 _ hi).2.2, by rw [rk_eq h1 h2 h3 hi]; omega⟩ (fun d hd hz => ?_)
    obtain ⟨j, hj, rfl⟩ := h2 d hd hz.1
    have := hz.2
    rw [rk_eq h1 h2 h3 hj] at this
    rw [show j = p.toNat by omega]
  · refine cap_none M (fun d hd hz => ?_)
    obtain ⟨j, hj, rfl⟩ := h2 d hd hz.1
    have := hz.2
    rw [rk_eq h1 h2 h3 hj] at this
    omega
theorem SRT_congr {f : Nat → Int} {n M : Nat} {st st' : Nat → Int} {ti ti' : Nat → Prop} (h : SRT f n M st ti) (e : ∀ c, c < M → st c = st' c) (e' : ∀ c, c < M → (ti c ↔ ti' c)) : SRT f n M st' ti' := by
  obtain ⟨g, h1, h2, h3⟩ := h
  refine ⟨g, fun i hi => ⟨(h1 i hi).1, (h1 i hi).2.1, (e' _ (h1 i hi).2.1).mp (h1 i hi).2.2⟩, fun c hc ht => h2 c hc ((e' c hc).mpr ht), fun i j hij hj => ?_⟩
  have := h3 i j hij hj
  unfold ahd at this ⊢
  rw [← e _ (h1 i (by omega)).2.1, ← e _ (h1 j hj).2.1]
  exact this
theorem sp_isAhead {k c : Nat} {σ : ho_S} {Q : ho_K} {X : ho_X} (hk : k < 16) (hc : c < 16) : mX7_isAhead [30, (k : Int), (c : Int)] σ Q X ↔ Q (bI (ahd (σ 37) k c)) σ := by
  simp only [mX7_isAhead, fX7_isAhead, u_eC, u_eV, u_eF, u_eR, u_eI, u_eL, u_eB, u_eD, u_eM, u_eU, u_aN, u_aC, u_eK, u_eT, u_cLt, u_cLe, u_cGt, u_cGe, u_cEq, u_cNe, u_cAnd, u_cOr, u_cNot, u_zN, u_zS, u_zD, u_zL, u_zI, u_zB, u_zP, u_zF, u_zA, u_zU, u_zC, u_zR, u_zRZ, u_zRC, u_zRV, u_zT, u_zE, u_zK, u_zY, ho_nid, List.getD_cons_zero, List.getD_cons_succ, List.set_cons_zero, List.set_cons_succ, List.cons_append, List.nil_append, List.take_succ_cons, List.take_zero, Int.reduceToNat, Int.toNat_natCast, nN_0, nN_1, nN_2, nN_3, nN_4, nN_5, nN_6, nN_7, nN_8, nN_9, nN_10, nN_11, nN_12, nN_13, nN_14, nN_15, nN_16, nN_17, nN_18, nN_19, nN_20, nN_21, nN_22, nN_23, nN_24, nN_25, nN_26, nN_27, nN_28, nN_29, nN_30, nN_31, nN_32, nN_33, nN_34, nN_35, nN_36, nN_37, nN_38, nN_39, nN_40, nN_41, nN_42, nN_43, nN_44, nN_45, nN_46, nN_47, nN_48, nN_49, nN_50, nN_51, nN_52, nN_53, nN_54, nR_0_0, nR_0_1, nR_0_2, nR_0_3, nR_0_4, nR_0_5, nR_0_6, nR_0_7, nR_0_8, nR_0_9, nR_0_10, nR_1_0, nR_1_1, nR_1_2, nR_1_3, nR_1_4, nR_2_0, nR_2_1, nR_2_2, nR_2_3, nR_2_4, nR_3_0, nR_3_1, nR_4_2, nR_5_2, nR_6_0, nR_6_1, nR_6_2, nR_7_0, nR_30_2, nR_30_3, nR_30_4, nR_30_6, nR_30_7, nR_30_9, nR_30_10, nR_30_11, nR_30_12, nR_30_13, nR_30_14, nR_30_15, nR_30_16, nR_30_18, nR_30_19, nR_30_20, nR_30_21, nR_30_22, nR_30_23, nR_30_24, nR_30_28, nR_30_29, nR_30_31]
  simp only [mR_30_2, mR_30_3, mR_30_4, mR_30_6, mR_30_7, mR_30_9, mR_30_10, mR_30_11, mR_30_12, mR_30_13, mR_30_14, mR_30_15, mR_30_16, mR_30_18, mR_30_19, mR_30_20, mR_30_21, mR_30_22, mR_30_23, mR_30_24, mR_30_28, mR_30_29, mR_30_31, mR_0_9, mR_7_0, nN_25, nN_26, nN_27, nN_28, nN_29, nN_30, nN_31, nN_32, nN_33, nN_34, nN_35, nN_36, nN_37, nN_38, nN_39, nN_40, nN_41, nN_42, nN_43, nN_44, nN_45, nN_46, nN_47, nN_48, nN_49, nN_50, nN_51, nN_52, nN_53, nN_54, Int.toNat_natCast]
  have h1 : (0 ≤ (k : Int) ∧ (k : Int) < 16) := by omega
  have h2 : (0 ≤ (c : Int) ∧ (c : Int) < 16) := by omega
  simp only [h1, h2, and_self, true_and, n01, n00, true_or, or_true, true_and]
  unfold bI ahd
  clear h1 h2
  grind
theorem sp_captionAt {M : Nat} {p : Int} {σ : ho_S} {Q : ho_K} {X : ho_X} (hM : σ 30 8 = (M : Int)) (hM1 : M ≤ 16) (h : Q (cap (σ 37) M p M) σ) : mX7_captionAt [30, p] σ Q X := by
  simp only [mX7_captionAt, fX7_captionAt, u_eC, u_eV, u_eF, u_eR, u_eI, u_eL, u_eB, u_eD, u_eM, u_eU, u_aN, u_aC, u_eK, u_eT, u_cLt, u_cLe, u_cGt, u_cGe, u_cEq, u_cNe, u_cAnd, u_cOr, u_cNot, u_zN, u_zS, u_zD, u_zL, u_zI, u_zB, u_zP, u_zF, u_zA, u_zU, u_zC, u_zR, u_zRZ, u_zRC, u_zRV, u_zT, u_zE, u_zK, u_zY, ho_nid, List.getD_cons_zero, List.getD_cons_succ, List.set_cons_zero, List.set_cons_succ, List.cons_append, List.nil_append, List.take_succ_cons, List.take_zero, Int.reduceToNat, Int.toNat_natCast, nN_0, nN_1, nN_2, nN_3, nN_4, nN_5, nN_6, nN_7, nN_8, nN_9, nN_10, nN_11, nN_12, nN_13, nN_14, nN_15, nN_16, nN_17, nN_18, nN_19, nN_20, nN_21, nN_22, nN_23, nN_24, nN_25, nN_26, nN_27, nN_28, nN_29, nN_30, nN_31, nN_32, nN_33, nN_34, nN_35, nN_36, nN_37, nN_38, nN_39, nN_40, nN_41, nN_42, nN_43, nN_44, nN_45, nN_46, nN_47, nN_48, nN_49, nN_50, nN_51, nN_52, nN_53, nN_54, nR_0_0, nR_0_1, nR_0_2, nR_0_3, nR_0_4, nR_0_5, nR_0_6, nR_0_7, nR_0_8, nR_0_9, nR_0_10, nR_1_0, nR_1_1, nR_1_2, nR_1_3, nR_1_4, nR_2_0, nR_2_1, nR_2_2, nR_2_3, nR_2_4, nR_3_0, nR_3_1, nR_4_2, nR_5_2, nR_6_0, nR_6_1, nR_6_2, nR_7_0, nR_30_2, nR_30_3, nR_30_4, nR_30_6, nR_30_7, nR_30_9, nR_30_10, nR_30_11, nR_30_12, nR_30_13, nR_30_14, nR_30_15, nR_30_16, nR_30_18, nR_30_19, nR_30_20, nR_30_21, nR_30_22, nR_30_23, nR_30_24, nR_30_28, nR_30_29, nR_30_31]
  refine zW_rule (fun v σ' m => ∃ c : Nat, c ≤ M ∧ v = [30, p, cap (σ 37) M p c, (c : Int)] ∧ m = M - c ∧ σ' = σ) _ ⟨0, by omega, rfl, rfl, rfl⟩ ?_
  rintro v σ' m ⟨c, hc, rfl, rfl, rfl⟩ KK KE hKK hKE
  simp only [u_eC, u_eV, u_eF, u_eR, u_eI, u_eL, u_eB, u_eD, u_eM, u_eU, u_aN, u_aC, u_eK, u_eT, u_cLt, u_cLe, u_cGt, u_cGe, u_cEq, u_cNe, u_cAnd, u_cOr, u_cNot, u_zN, u_zS, u_zD, u_zL, u_zI, u_zB, u_zP, u_zF, u_zA, u_zU, u_zC, u_zR, u_zRZ, u_zRC, u_zRV, u_zT, u_zE, u_zK, u_zY, ho_nid, List.getD_cons_zero, List.getD_cons_succ, List.set_cons_zero, List.set_cons_succ, List.cons_append, List.nil_append, List.take_succ_cons, List.take_zero, Int.reduceToNat, Int.toNat_natCast, nN_0, nN_1, nN_2, nN_3, nN_4, nN_5, nN_6, nN_7, nN_8, nN_9, nN_10, nN_11, nN_12, nN_13, nN_14, nN_15, nN_16, nN_17, nN_18, nN_19, nN_20, nN_21, nN_22, nN_23, nN_24, nN_25, nN_26, nN_27, nN_28, nN_29, nN_30, nN_31, nN_32, nN_33, nN_34, nN_35, nN_36, nN_37, nN_38, nN_39, nN_40, nN_41, nN_42, nN_43, nN_44, nN_45, nN_46, nN_47, nN_48, nN_49, nN_50, nN_51, nN_52, nN_53, nN_54, nR_0_0, nR_0_1, nR_0_2, nR_0_3, nR_0_4, nR_0_5, nR_0_6, nR_0_7, nR_0_8, nR_0_9, nR_0_10, nR_1_0, nR_1_1, nR_1_2, nR_1_3, nR_1_4, nR_2_0, nR_2_1, nR_2_2, nR_2_3, nR_2_4, nR_3_0, nR_3_1, nR_4_2, nR_5_2, nR_6_0, nR_6_1, nR_6_2, nR_7_0, nR_30_2, nR_30_3, nR_30_4, nR_30_6, nR_30_7, nR_30_9, nR_30_10, nR_30_11, nR_30_12, nR_30_13, nR_30_14, nR_30_15, nR_30_16, nR_30_18, nR_30_19, nR_30_20, nR_30_21, nR_30_22, nR_30_23, nR_30_24, nR_30_28, nR_30_29, nR_30_31, hM, inc (show c < 100000 by omega)]
  refine ⟨fun c1 => ?_, fun c1 => hKE _ ?_⟩
  · refine zW_rule (fun v σ1 m => ∃ k : Nat, k ≤ M ∧ v = [30, p, cap (σ' 37) M p c, (c : Int), cnt (fun k => decide (σ' 37 k ≠ -1 ∧ ahd (σ' 37) k c)) k, (k : Int)] ∧ m = M - k ∧ σ1 = σ') _ ⟨0, by omega, rfl, rfl, rfl⟩ ?_
    rintro v σ1 m ⟨k, hk, rfl, rfl, rfl⟩ K2 KE2 hK2 hE2
    have rg := cnt_range (fun k => decide (σ1 37 k ≠ -1 ∧ ahd (σ1 37) k c)) k
    simp only [u_eC, u_eV, u_eF, u_eR, u_eI, u_eL, u_eB, u_eD, u_eM, u_eU, u_aN, u_aC, u_eK, u_eT, u_cLt, u_cLe, u_cGt, u_cGe, u_cEq, u_cNe, u_cAnd, u_cOr, u_cNot, u_zN, u_zS, u_zD, u_zL, u_zI, u_zB, u_zP, u_zF, u_zA, u_zU, u_zC, u_zR, u_zRZ, u_zRC, u_zRV, u_zT, u_zE, u_zK, u_zY, ho_nid, List.getD_cons_zero, List.getD_cons_succ, List.set_cons_zero, List.set_cons_succ, List.cons_append, List.nil_append, List.take_succ_cons, List.take_zero, Int.reduceToNat, Int.toNat_natCast, nN_0, nN_1, nN_2, nN_3, nN_4, nN_5, nN_6, nN_7, nN_8, nN_9, nN_10, nN_11, nN_12, nN_13, nN_14, nN_15, nN_16, nN_17, nN_18, nN_19, nN_20, nN_21, nN_22, nN_23, nN_24, nN_25, nN_26, nN_27, nN_28, nN_29, nN_30, nN_31, nN_32, nN_33, nN_34, nN_35, nN_36, nN_37, nN_38, nN_39, nN_40, nN_41, nN_42, nN_43, nN_44, nN_45, nN_46, nN_47, nN_48, nN_49, nN_50, nN_51, nN_52, nN_53, nN_54, nR_0_0, nR_0_1, nR_0_2, nR_0_3, nR_0_4, nR_0_5, nR_0_6, nR_0_7, nR_0_8, nR_0_9, nR_0_10, nR_1_0, nR_1_1, nR_1_2, nR_1_3, nR_1_4, nR_2_0, nR_2_1, nR_2_2, nR_2_3, nR_2_4, nR_3_0, nR_3_1, nR_4_2, nR_5_2, nR_6_0, nR_6_1, nR_6_2, nR_7_0, nR_30_2, nR_30_3, nR_30_4, nR_30_6, nR_30_7, nR_30_9, nR_30_10, nR_30_11, nR_30_12, nR_30_13, nR_30_14, nR_30_15, nR_30_16, nR_30_18, nR_30_19, nR_30_20, nR_30_21, nR_30_22, nR_30_23, nR_30_24, nR_30_28, nR_30_29, nR_30_31, hM, inc (show k < 100000 by omega)]
    refine ⟨fun c2 => ?_, fun c2 => hE2 _ ?_⟩
    · simp only [mR_30_2, mR_30_3, mR_30_4, mR_30_6, mR_30_7, mR_30_9, mR_30_10, mR_30_11, mR_30_12, mR_30_13, mR_30_14, mR_30_15, mR_30_16, mR_30_18, mR_30_19, mR_30_20, mR_30_21, mR_30_22, mR_30_23, mR_30_24, mR_30_28, mR_30_29, mR_30_31, mR_0_9, mR_7_0, nN_25, nN_26, nN_27, nN_28, nN_29, nN_30, nN_31, nN_32, nN_33, nN_34, nN_35, nN_36, nN_37, nN_38, nN_39, nN_40, nN_41, nN_42, nN_43, nN_44, nN_45, nN_46, nN_47, nN_48, nN_49, nN_50, nN_51, nN_52, nN_53, nN_54, Int.toNat_natCast, sp_isAhead (show k < 16 by omega) (show c < 16 by omega), bI_ne, bI_eq]
      have nx : ∀ x : Int, x = cnt (fun k => decide (σ1 37 k ≠ -1 ∧ ahd (σ1 37) k c)) (k + 1) → K2 [30, p, cap (σ1 37) M p c, (c : Int), x, ((k + 1 : Nat) : Int)] σ1 := fun x e => hK2 _ _ (M - (k + 1)) (by omega) ⟨k + 1, by omega, by rw [e], rfl, rfl⟩
      have no : ¬ (σ1 37 k ≠ -1 ∧ ahd (σ1 37) k c) → K2 [30, p, cap (σ1 37) M p c, (c : Int), ho_oadd (cnt (fun k => decide (σ1 37 k ≠ -1 ∧ ahd (σ1 37) k c)) k) 0, ((k + 1 : Nat) : Int)] σ1 := fun z => nx _ (by
        rw [wad (by omega) (by omega)]
        show _ = cnt _ k + (if decide _ = true then 1 else 0)
        rw [if_neg (by simp only [decide_eq_true_eq]; exact z)])
      refine ⟨by omega, fun a => ⟨fun b => nx _ ?_, fun b => no (fun z => b z.2)⟩, fun a => no (fun z => z.1 a)⟩
      rw [wad (by omega) (by omega)]
      show _ = cnt _ k + (if decide _ = true then 1 else 0)
      rw [if_pos (by simp only [decide_eq_true_eq]; exact ⟨a, b⟩)]
    · have hkM : k = M := by omega
      subst hkM
      simp only [u_eC, u_eV, u_eF, u_eR, u_eI, u_eL, u_eB, u_eD, u_eM, u_eU, u_aN, u_aC, u_eK, u_eT, u_cLt, u_cLe, u_cGt, u_cGe, u_cEq, u_cNe, u_cAnd, u_cOr, u_cNot, u_zN, u_zS, u_zD, u_zL, u_zI, u_zB, u_zP, u_zF, u_zA, u_zU, u_zC, u_zR, u_zRZ, u_zRC, u_zRV, u_zT, u_zE, u_zK, u_zY, ho_nid, List.getD_cons_zero, List.getD_cons_succ, List.set_cons_zero, List.set_cons_succ, List.cons_append, List.nil_append, List.take_succ_cons, List.take_zero, Int.reduceToNat, Int.toNat_natCast, nN_0, nN_1, nN_2, nN_3, nN_4, nN_5, nN_6, nN_7, nN_8, nN_9, nN_10, nN_11, nN_12, nN_13, nN_14, nN_15, nN_16, nN_17, nN_18, nN_19, nN_20, nN_21, nN_22, nN_23, nN_24, nN_25, nN_26, nN_27, nN_28, nN_29, nN_30, nN_31, nN_32, nN_33, nN_34, nN_35, nN_36, nN_37, nN_38, nN_39, nN_40, nN_41, nN_42, nN_43, nN_44, nN_45, nN_46, nN_47, nN_48, nN_49, nN_50, nN_51, nN_52, nN_53, nN_54, nR_0_0, nR_0_1, nR_0_2, nR_0_3, nR_0_4, nR_0_5, nR_0_6, nR_0_7, nR_0_8, nR_0_9, nR_0_10, nR_1_0, nR_1_1, nR_1_2, nR_1_3, nR_1_4, nR_2_0, nR_2_1, nR_2_2, nR_2_3, nR_2_4, nR_3_0, nR_3_1, nR_4_2, nR_5_2, nR_6_0, nR_6_1, nR_6_2, nR_7_0, nR_30_2, nR_30_3, nR_30_4, nR_30_6, nR_30_7, nR_30_9, nR_30_10, nR_30_11, nR_30_12, nR_30_13, nR_30_14, nR_30_15, nR_30_16, nR_30_18, nR_30_19, nR_30_20, nR_30_21, nR_30_22, nR_30_23, nR_30_24, nR_30_28, nR_30_29, nR_30_31, inc (show c < 100000 by omega)]
      simp only [mR_30_2, mR_30_3, mR_30_4, mR_30_6, mR_30_7, mR_30_9, mR_30_10, mR_30_11, mR_30_12, mR_30_13, mR_30_14, mR_30_15, mR_30_16, mR_30_18, mR_30_19, mR_30_20, mR_30_21, mR_30_22, mR_30_23, mR_30_24, mR_30_28, mR_30_29, mR_30_31, mR_0_9, mR_7_0, nN_25, nN_26, nN_27, nN_28, nN_29, nN_30, nN_31, nN_32, nN_33, nN_34, nN_35, nN_36, nN_37, nN_38, nN_39, nN_40, nN_41, nN_42, nN_43, nN_44, nN_45, nN_46, nN_47, nN_48, nN_49, nN_50, nN_51, nN_52, nN_53, nN_54, Int.toNat_natCast]
      have nx : ∀ x : Int, x = cap (σ1 37) k p (c + 1) → KK [30, p, x, ((c + 1 : Nat) : Int)] σ1 := fun x e => hKK _ _ (k - (c + 1)) (by omega) ⟨c + 1, by omega, by rw [e], rfl, rfl⟩
      have no : ¬ (σ1 37 c ≠ -1 ∧ rk (σ1 37) k c = p) → KK [30, p, cap (σ1 37) k p c, ((c + 1 : Nat) : Int)] σ1 := fun z => nx _ (if_neg z).symm
      refine ⟨by omega, fun a => ⟨fun b => nx _ (if_pos ⟨a, b⟩).symm, fun b => no (fun z => b z.2)⟩, fun a => no (fun z => z.1 a)⟩
  · have hcM : c = M := by omega
    subst hcM
    exact h
