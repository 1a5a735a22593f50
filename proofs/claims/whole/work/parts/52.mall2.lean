theorem cap_rg {st : Nat → Int} {M : Nat} {p : Int} (k : Nat) : cap st M p k = -1 ∨ ∃ c : Nat, c < k ∧ cap st M p k = (c : Int) ∧ st c ≠ -1 := by
  induction k with
  | zero => exact Or.inl rfl
  | succ k ih =>
    show (if st k ≠ -1 ∧ rk st M k = p then (k : Int) else cap st M p k) = -1 ∨ ∃ c : Nat, c < k + 1 ∧ (if st k ≠ -1 ∧ rk st M k = p then (k : Int) else cap st M p k) = (c : Int) ∧ st c ≠ -1
    by_cases q : st k ≠ -1 ∧ rk st M k = p
    · rw [if_pos q]; exact Or.inr ⟨k, by omega, rfl, q.1⟩
    · rw [if_neg q]
      rcases ih with h | ⟨c, h1, h2, h3⟩
      · exact Or.inl h
      · exact Or.inr ⟨c, by omega, h2, h3⟩
theorem rk_congr {st st' : Nat → Int} {M c : Nat} (hc : c < M) (h : ∀ k, k < M → st k = st' k) : rk st M c = rk st' M c := by
  unfold rk
  refine cnt_congr (fun k hk => ?_)
  unfold ahd
  rw [h k hk, h c hc]
theorem cap_congr {st st' : Nat → Int} {M : Nat} {p : Int} (h : ∀ k, k < M → st k = st' k) (k : Nat) (hk : k ≤ M) : cap st M p k = cap st' M p k := by
  induction k with
  | zero => rfl
  | succ k ih =>
    show (if st k ≠ -1 ∧ rk st M k = p then (k : Int) else cap st M p k) = (if st' k ≠ -1 ∧ rk st' M k = p then (k : Int) else cap st' M p k)
    rw [ih (by omega), rk_congr (by omega) h, h k (by omega)]
theorem allU_congr {fmt : Bool} {od od' : Nat → Int} {tt tt' : Nat → TV} {st ln lk st' ln' lk' : Nat → Int} {W : Int} {t M : Nat} (ht : t < 3) (hM : M ≤ 16) (h1 : ∀ k, od k = od' k) (h2 : ∀ k, od k = -1 ∨ ∃ c : Nat, od k = (c : Int) ∧ c < M) (h3 : ∀ x, x < 48 → tt x = tt' x) (h4 : ∀ c, c < M → st c = st' c ∧ ln c = ln' c ∧ lk c = lk' c) (j : Nat) : allU fmt od tt st ln lk W t j = allU fmt od' tt' st' ln' lk' W t j := by
  induction j with
  | zero => rfl
  | succ j ih =>
    unfold allU
    rw [ih, ← h1 j]
    rcases h2 j with h | ⟨c, hc, hcM⟩
    · rw [if_neg (fun z => z.1 h), if_neg (fun z => z.1 h)]
    · rw [hc, Int.toNat_natCast, h3 (3 * c + t) (by omega), (h4 c hcM).1, (h4 c hcM).2.1, (h4 c hcM).2.2]
def pMA (k j : Nat) : Bool := pRo k j || pOt k j
theorem pMA_ro : ∀ k j, pRo k j = true → pMA k j = true := fun k j z => by unfold pMA; rw [z]; rfl
theorem pMA_ot : ∀ k j, pOt k j = true → pMA k j = true := fun k j z => by unfold pMA; rw [z]; simp
theorem sp_writesAll {t M N : Nat} {fmt : Int} {σ : ho_S} {Q : ho_K} {X : ho_X} (ht : t < 3) (hM : σ 30 8 = (M : Int)) (hM1 : M ≤ 16) (hz : ∀ x, x < 48 → ∃ n T, MTX σ x n T ∧ SG T n) (hTM : TM (σ 37) (σ 38) M N) (hN : N ≤ 4800) (hlk : ∀ c, c < M → σ 36 c ≤ 3)
    (h : ∀ σ', sm pMA σ σ' → OT σ' (allU (decide (fmt ≠ 0)) (fun k => cap (σ 37) M (k : Int) M) (tv (σ 42) (σ 41)) (σ 37) (σ 38) (σ 36) (σ 30 25) t M).2 → Q 0 σ') : mX7_writesAll [30, fmt, (t : Int)] σ Q X := by
  simp only [mX7_writesAll, fX7_writesAll, u_eC, u_eV, u_eF, u_eR, u_eI, u_eL, u_eB, u_eD, u_eM, u_eU, u_aN, u_aC, u_eK, u_eT, u_cLt, u_cLe, u_cGt, u_cGe, u_cEq, u_cNe, u_cAnd, u_cOr, u_cNot, u_zN, u_zS, u_zD, u_zL, u_zI, u_zB, u_zP, u_zF, u_zA, u_zU, u_zC, u_zR, u_zRZ, u_zRC, u_zRV, u_zT, u_zE, u_zK, u_zY, ho_nid, List.getD_cons_zero, List.getD_cons_succ, List.set_cons_zero, List.set_cons_succ, List.cons_append, List.nil_append, List.take_succ_cons, List.take_zero, Int.reduceToNat, Int.toNat_natCast, nN_0, nN_1, nN_2, nN_3, nN_4, nN_5, nN_6, nN_7, nN_8, nN_9, nN_10, nN_11, nN_12, nN_13, nN_14, nN_15, nN_16, nN_17, nN_18, nN_19, nN_20, nN_21, nN_22, nN_23, nN_24, nN_25, nN_26, nN_27, nN_28, nN_29, nN_30, nN_31, nN_32, nN_33, nN_34, nN_35, nN_36, nN_37, nN_38, nN_39, nN_40, nN_41, nN_42, nN_43, nN_44, nN_45, nN_46, nN_47, nN_48, nN_49, nN_50, nN_51, nN_52, nN_53, nN_54, nR_0_0, nR_0_1, nR_0_2, nR_0_3, nR_0_4, nR_0_5, nR_0_6, nR_0_7, nR_0_8, nR_0_9, nR_0_10, nR_1_0, nR_1_1, nR_1_2, nR_1_3, nR_1_4, nR_2_0, nR_2_1, nR_2_2, nR_2_3, nR_2_4, nR_3_0, nR_3_1, nR_4_2, nR_5_2, nR_6_0, nR_6_1, nR_6_2, nR_7_0, nR_30_2, nR_30_3, nR_30_4, nR_30_6, nR_30_7, nR_30_9, nR_30_10, nR_30_11, nR_30_12, nR_30_13, nR_30_14, nR_30_15, nR_30_16, nR_30_18, nR_30_19, nR_30_20, nR_30_21, nR_30_22, nR_30_23, nR_30_24, nR_30_28, nR_30_29, nR_30_31]
  obtain ⟨A, hA⟩ : ∃ A : Nat → Int × List Int, A = allU (decide (fmt ≠ 0)) (fun k => cap (σ 37) M (k : Int) M) (tv (σ 42) (σ 41)) (σ 37) (σ 38) (σ 36) (σ 30 25) t := ⟨_, rfl⟩
  have A0 : A 0 = (0, []) := by rw [hA]; rfl
  have Ay : ∀ (k c n' : Nat) (T : Nat → Int), cap (σ 37) M (k : Int) M = (c : Int) → MTX σ (3 * c + t) n' T → 0 < n' → A (k + 1) = ((A k).1 + 1, (A k).2 ++ capU (decide (fmt ≠ 0)) ((A k).1 + 1) (σ 37 c) (σ 38 c) (σ 36 c) T (rws T (σ 30 25) n')) := fun k c n' T hk hT h0 => by
    rw [hA]
    exact allU_y (c := c) hk (MTX_tv hT) h0
  have An : ∀ (k c n' : Nat) (T : Nat → Int), cap (σ 37) M (k : Int) M = (c : Int) → MTX σ (3 * c + t) n' T → n' = 0 → A (k + 1) = A k := fun k c n' T hk hT h0 => by
    rw [hA]
    refine allU_n (Or.inr ⟨c, hk, ?_⟩)
    rw [MTX_tv hT, h0]; rfl
  have Ae : ∀ k : Nat, cap (σ 37) M (k : Int) M = -1 → A (k + 1) = A k := fun k hk => by
    rw [hA]
    exact allU_n (Or.inl hk)
  rw [← hA] at h
  clear hA
  refine zW_rule (fun v σ' m => ∃ k : Nat, (k ≤ M) ∧ v = [30, fmt, (t : Int), (A k).1, (k : Int)] ∧ m = M - k ∧ sm pMA σ σ' ∧ OT σ' (A k).2 ∧ (A k).2.length ≤ 150 * k ∧ 0 ≤ (A k).1 ∧ (A k).1 ≤ k) _ ⟨0, by omega, by rw [A0]; rfl, rfl, sm_up sm_rf rfl, by rw [A0]; exact ⟨ho_upE, AR_nil⟩, by rw [A0]; exact Nat.le_refl _, by rw [A0]; exact Int.le_refl _, by rw [A0]; exact Int.le_refl _⟩ ?_
  rintro v σ' m ⟨k, hk, rfl, rfl, hs, hP, b1, b2, b3⟩ KK KE hKK hKE
  have hM' : σ' 30 8 = (M : Int) := (hs 30 8 rfl).trans hM
  have e37 : σ' 37 = σ 37 := sm_fn hs 37 (fun _ => rfl)
  simp only [u_eC, u_eV, u_eF, u_eR, u_eI, u_eL, u_eB, u_eD, u_eM, u_eU, u_aN, u_aC, u_eK, u_eT, u_cLt, u_cLe, u_cGt, u_cGe, u_cEq, u_cNe, u_cAnd, u_cOr, u_cNot, u_zN, u_zS, u_zD, u_zL, u_zI, u_zB, u_zP, u_zF, u_zA, u_zU, u_zC, u_zR, u_zRZ, u_zRC, u_zRV, u_zT, u_zE, u_zK, u_zY, ho_nid, List.getD_cons_zero, List.getD_cons_succ, List.set_cons_zero, List.set_cons_succ, List.cons_append, List.nil_append, List.take_succ_cons, List.take_zero, Int.reduceToNat, Int.toNat_natCast, nN_0, nN_1, nN_2, nN_3, nN_4, nN_5, nN_6, nN_7, nN_8, nN_9, nN_10, nN_11, nN_12, nN_13, nN_14, nN_15, nN_16, nN_17, nN_18, nN_19, nN_20, nN_21, nN_22, nN_23, nN_24, nN_25, nN_26, nN_27, nN_28, nN_29, nN_30, nN_31, nN_32, nN_33, nN_34, nN_35, nN_36, nN_37, nN_38, nN_39, nN_40, nN_41, nN_42, nN_43, nN_44, nN_45, nN_46, nN_47, nN_48, nN_49, nN_50, nN_51, nN_52, nN_53, nN_54, nR_0_0, nR_0_1, nR_0_2, nR_0_3, nR_0_4, nR_0_5, nR_0_6, nR_0_7, nR_0_8, nR_0_9, nR_0_10, nR_1_0, nR_1_1, nR_1_2, nR_1_3, nR_1_4, nR_2_0, nR_2_1, nR_2_2, nR_2_3, nR_2_4, nR_3_0, nR_3_1, nR_4_2, nR_5_2, nR_6_0, nR_6_1, nR_6_2, nR_7_0, nR_30_2, nR_30_3, nR_30_4, nR_30_6, nR_30_7, nR_30_9, nR_30_10, nR_30_11, nR_30_12, nR_30_13, nR_30_14, nR_30_15, nR_30_16, nR_30_18, nR_30_19, nR_30_20, nR_30_21, nR_30_22, nR_30_23, nR_30_24, nR_30_28, nR_30_29, nR_30_31, hM', inc (show k < 100000 by omega)]
  refine ⟨fun c1 => ?_, fun c1 => hKE _ ?_⟩
  · have hkM : k < M := by omega
    refine sp_captionAt hM' hM1 ?_
    rw [e37]
    have skip : A (k + 1) = A k → KK [30, fmt, (t : Int), (A k).1, ((k + 1 : Nat) : Int)] σ' := fun Ak =>
      hKK _ _ (M - (k + 1)) (by omega) ⟨k + 1, by omega, by rw [Ak], rfl, hs, by rw [Ak]; exact hP, by rw [Ak]; omega, by rw [Ak]; exact b2, by rw [Ak]; omega⟩
    rcases cap_rg (st := σ 37) (M := M) (p := (k : Int)) M with hcap | ⟨c, hcM, hcap, hst⟩
    · rw [hcap]
      exact ⟨fun z => absurd rfl z, fun _ => skip (Ae k hcap)⟩
    · rw [hcap]
      refine ⟨fun _ => ?_, fun z => by omega⟩
      obtain ⟨n', T, hT, hG⟩ := hz (3 * c + t) (by omega)
      have hn9 := hT.2.1
      have hT' := MTX_sm hT hs (fun _ => rfl) (fun _ => rfl)
      rw [mIdx (show c < 16 by omega) ht]
      simp only [mR_30_2, mR_30_3, mR_30_4, mR_30_6, mR_30_7, mR_30_9, mR_30_10, mR_30_11, mR_30_12, mR_30_13, mR_30_14, mR_30_15, mR_30_16, mR_30_18, mR_30_19, mR_30_20, mR_30_21, mR_30_22, mR_30_23, mR_30_24, mR_30_28, mR_30_29, mR_30_31, mR_0_9, mR_7_0, nN_25, nN_26, nN_27, nN_28, nN_29, nN_30, nN_31, nN_32, nN_33, nN_34, nN_35, nN_36, nN_37, nN_38, nN_39, nN_40, nN_41, nN_42, nN_43, nN_44, nN_45, nN_46, nN_47, nN_48, nN_49, nN_50, nN_51, nN_52, nN_53, nN_54, Int.toNat_natCast, hT'.1]
      refine ⟨by omega, fun c2 => ?_, fun c2 => skip (An k c n' T hcap hT (by omega))⟩
      have h0 : 0 < n' := by omega
      have Ak := Ay k c n' T hcap hT h0
      have tc := hTM c hcM
      have w1 : ho_w ((A k).1 + 1) = (A k).1 + 1 := wE (by omega) (by omega)
      rw [w1]
      clear w1
      refine sp_laysRows (by omega) hT' (fun σ2 s2 R2 => ?_)
      have eW : σ' 30 25 = σ 30 25 := hs 30 25 rfl
      rw [eW] at R2
      have H2 : MH σ2 n' (rws T (σ 30 25) n') := ⟨R2.1, R2.2, rws_in, rws_len, tot_rws⟩
      have hT2 := MTX_sm hT' s2 (fun _ => rfl) (fun _ => rfl)
      have s02 : sm pMA σ σ2 := sm_tr hs (sm_w s2 pMA_ro)
      have P2 : OT σ2 (A k).2 := by
        unfold OT
        rw [s2 30 30 rfl, sm_fn s2 53 (fun _ => rfl)]
        exact hP
      have nx : ∀ σ3 : ho_S, sm pOt σ2 σ3 → OT σ3 ((A k).2 ++ capU (decide (fmt ≠ 0)) ((A k).1 + 1) (σ 37 c) (σ 38 c) (σ 36 c) T (rws T (σ 30 25) n')) → KK [30, fmt, (t : Int), (A k).1 + 1, ((k + 1 : Nat) : Int)] σ3 := by
        intro σ3 s3 P3
        have cl := capU_len (fmt := decide (fmt ≠ 0)) (num := (A k).1 + 1) (lk := σ 36 c) (T := T) (W := σ 30 25) hn9 (by omega) (show 0 ≤ σ 37 c by omega) tc.1 (by omega)
        refine hKK _ _ (M - (k + 1)) (by omega) ⟨k + 1, by omega, by rw [Ak], rfl, sm_tr s02 (sm_w s3 pMA_ot), by rw [Ak]; exact P3, ?_, ?_, ?_⟩
        · rw [Ak]; dsimp only; rw [List.length_append]; omega
        · rw [Ak]; dsimp only; omega
        · rw [Ak]; dsimp only; omega
      have f37 : σ2 37 c = σ 37 c := s02 37 _ rfl
      have f38 : σ2 38 c = σ 38 c := s02 38 _ rfl
      have f36 : σ2 36 c = σ 36 c := s02 36 _ rfl
      refine ⟨fun c3 => ?_, fun c3 => ?_⟩
      · rw [decide_eq_false (show ¬ fmt ≠ 0 from fun z => z c3)] at nx
        exact sp_writesLong (by omega) (by omega) hT2 hG H2 (rws_pos h0) f37 f38 f36 (by omega) tc.1 (by omega) (by omega) (by omega) P2 (by omega) nx
      · rw [decide_eq_true (show fmt ≠ 0 from c3)] at nx
        exact sp_writesShort (by omega) (by omega) hT2 hG H2 f37 f38 f36 (by omega) tc.1 (by omega) (hlk c hcM) P2 (by omega) nx
  · have hkM : k = M := by omega
    subst hkM
    exact h σ' hs hP
