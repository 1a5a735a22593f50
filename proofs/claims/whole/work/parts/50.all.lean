def pWA (k j : Nat) : Bool := pOr k j || (pLy k j || pPg k j)
theorem pWA_or : ∀ k j, pOr k j = true → pWA k j = true := fun k j z => by unfold pWA; rw [z]; rfl
theorem pWA_ly : ∀ k j, pLy k j = true → pWA k j = true := fun k j z => by unfold pWA; rw [z]; simp
theorem pWA_pg : ∀ k j, pPg k j = true → pWA k j = true := fun k j z => by unfold pWA; rw [z]; simp
theorem TXT_tv {σ : ho_S} {x n : Nat} {T : Nat → Int} (h : TXT σ x n T) : tv (σ 18) (σ 19) x = ((n : Int), T) := by unfold tv; rw [h.1, h.2.2]
theorem MTX_tv {σ : ho_S} {x n : Nat} {T : Nat → Int} (h : MTX σ x n T) : tv (σ 42) (σ 41) x = ((n : Int), T) := by unfold tv; rw [h.1, h.2.2]
theorem allU_more {fmt : Bool} {od : Nat → Int} {tt : Nat → TV} {st ln lk : Nat → Int} {W : Int} {t n : Nat} (j : Nat) (hj : n ≤ j) (h : ∀ i, n ≤ i → i < j → od i = -1) : allU fmt od tt st ln lk W t j = allU fmt od tt st ln lk W t n := by
  induction j with
  | zero => rw [show n = 0 by omega]
  | succ j ih =>
    by_cases q : n = j + 1
    · rw [q]
    · rw [allU_n (Or.inl (h j (by omega) (by omega)))]
      exact ih (by omega) (fun i a b => h i a (by omega))
theorem rws_HR {σ : ho_S} {T : Nat → Int} {W : Int} {n : Nat} (h3 : σ 6 3 = ((rws T W n).length : Int)) (hR : RW (σ 22) (σ 23) (rws T W n)) : HR σ n (rws T W n) := ⟨h3, hR, rws_in, rws_len, tot_rws⟩
theorem sp_writeAll {t M N : Nat} {fmt : Int} {σ : ho_S} {Q : ho_K} {X : ho_X} (ht : t < 3) (hM : σ 0 11 = (M : Int)) (hM1 : M ≤ 16) (hz : ∀ x, x < 48 → ∃ n T, TXT σ x n T ∧ SG T n) (hTM : TM (σ 13) (σ 14) M N) (hN : N ≤ 4800)
    (h : ∀ σ', sm pWA σ σ' → PG σ' (allU (decide (fmt ≠ 0)) (fun k => cap (σ 13) M (k : Int) M) (tv (σ 18) (σ 19)) (σ 13) (σ 14) (σ 26) (σ 0 12) t M).2 → (allU (decide (fmt ≠ 0)) (fun k => cap (σ 13) M (k : Int) M) (tv (σ 18) (σ 19)) (σ 13) (σ 14) (σ 26) (σ 0 12) t M).2.length ≤ 2400 → Q 0 σ') : mX6_writeAll [0, fmt, (t : Int)] σ Q X := by
  simp only [mX6_writeAll, fX6_writeAll, u_eC, u_eV, u_eF, u_eR, u_eI, u_eL, u_eB, u_eD, u_eM, u_eU, u_aN, u_aC, u_eK, u_eT, u_cLt, u_cLe, u_cGt, u_cGe, u_cEq, u_cNe, u_cAnd, u_cOr, u_cNot, u_zN, u_zS, u_zD, u_zL, u_zI, u_zB, u_zP, u_zF, u_zA, u_zU, u_zC, u_zR, u_zRZ, u_zRC, u_zRV, u_zT, u_zE, u_zK, u_zY, ho_nid, List.getD_cons_zero, List.getD_cons_succ, List.set_cons_zero, List.set_cons_succ, List.cons_append, List.nil_append, List.take_succ_cons, List.take_zero, Int.reduceToNat, Int.toNat_natCast, nN_0, nN_1, nN_2, nN_3, nN_4, nN_5, nN_6, nN_7, nN_8, nN_9, nN_10, nN_11, nN_12, nN_13, nN_14, nN_15, nN_16, nN_17, nN_18, nN_19, nN_20, nN_21, nN_22, nN_23, nN_24, nN_25, nN_26, nN_27, nN_28, nN_29, nN_30, nN_31, nN_32, nN_33, nN_34, nN_35, nN_36, nN_37, nN_38, nN_39, nN_40, nN_41, nN_42, nN_43, nN_44, nN_45, nN_46, nN_47, nN_48, nN_49, nN_50, nN_51, nN_52, nN_53, nN_54, nR_0_0, nR_0_1, nR_0_2, nR_0_3, nR_0_4, nR_0_5, nR_0_6, nR_0_7, nR_0_8, nR_0_9, nR_0_10, nR_1_0, nR_1_1, nR_1_2, nR_1_3, nR_1_4, nR_2_0, nR_2_1, nR_2_2, nR_2_3, nR_2_4, nR_3_0, nR_3_1, nR_4_2, nR_5_2, nR_6_0, nR_6_1, nR_6_2, nR_7_0, nR_30_2, nR_30_3, nR_30_4, nR_30_6, nR_30_7, nR_30_9, nR_30_10, nR_30_11, nR_30_12, nR_30_13, nR_30_14, nR_30_15, nR_30_16, nR_30_18, nR_30_19, nR_30_20, nR_30_21, nR_30_22, nR_30_23, nR_30_24, nR_30_28, nR_30_29, nR_30_31]
  refine sp_orderCaptions hM hM1 (fun σ1 n s1 hn S1 => ?_)
  simp only [mX3_clear, fX3_clear, u_eC, u_eV, u_eF, u_eR, u_eI, u_eL, u_eB, u_eD, u_eM, u_eU, u_aN, u_aC, u_eK, u_eT, u_cLt, u_cLe, u_cGt, u_cGe, u_cEq, u_cNe, u_cAnd, u_cOr, u_cNot, u_zN, u_zS, u_zD, u_zL, u_zI, u_zB, u_zP, u_zF, u_zA, u_zU, u_zC, u_zR, u_zRZ, u_zRC, u_zRV, u_zT, u_zE, u_zK, u_zY, ho_nid, List.getD_cons_zero, List.getD_cons_succ, List.set_cons_zero, List.set_cons_succ, List.cons_append, List.nil_append, List.take_succ_cons, List.take_zero, Int.reduceToNat, Int.toNat_natCast, nN_0, nN_1, nN_2, nN_3, nN_4, nN_5, nN_6, nN_7, nN_8, nN_9, nN_10, nN_11, nN_12, nN_13, nN_14, nN_15, nN_16, nN_17, nN_18, nN_19, nN_20, nN_21, nN_22, nN_23, nN_24, nN_25, nN_26, nN_27, nN_28, nN_29, nN_30, nN_31, nN_32, nN_33, nN_34, nN_35, nN_36, nN_37, nN_38, nN_39, nN_40, nN_41, nN_42, nN_43, nN_44, nN_45, nN_46, nN_47, nN_48, nN_49, nN_50, nN_51, nN_52, nN_53, nN_54, nR_0_0, nR_0_1, nR_0_2, nR_0_3, nR_0_4, nR_0_5, nR_0_6, nR_0_7, nR_0_8, nR_0_9, nR_0_10, nR_1_0, nR_1_1, nR_1_2, nR_1_3, nR_1_4, nR_2_0, nR_2_1, nR_2_2, nR_2_3, nR_2_4, nR_3_0, nR_3_1, nR_4_2, nR_5_2, nR_6_0, nR_6_1, nR_6_2, nR_7_0, nR_30_2, nR_30_3, nR_30_4, nR_30_6, nR_30_7, nR_30_9, nR_30_10, nR_30_11, nR_30_12, nR_30_13, nR_30_14, nR_30_15, nR_30_16, nR_30_18, nR_30_19, nR_30_20, nR_30_21, nR_30_22, nR_30_23, nR_30_24, nR_30_28, nR_30_29, nR_30_31]
  have S2 : SRT (σ1 29) n M (σ 13) (fun c => σ 13 c ≠ -1) := SRT_congr S1 (fun _ _ => rfl) (fun c hc => by have := hTM c hc; constructor <;> intro z <;> omega)
  have hod : ∀ k, k < n → cap (σ 13) M (k : Int) M = σ1 29 k := fun k hk => by
    have := (cap_srt S2 (p := (k : Int)) (by omega)).1 (by omega)
    rw [this, Int.toNat_natCast]
  have hod2 : ∀ k, n ≤ k → cap (σ 13) M (k : Int) M = -1 := fun k hk => (cap_srt S2 (p := (k : Int)) (by omega)).2 (by omega)
  obtain ⟨g, g1, g2, g3⟩ := S2
  obtain ⟨A, hA⟩ : ∃ A : Nat → Int × List Int, A = allU (decide (fmt ≠ 0)) (fun k => cap (σ 13) M (k : Int) M) (tv (σ 18) (σ 19)) (σ 13) (σ 14) (σ 26) (σ 0 12) t := ⟨_, rfl⟩
  have A0 : A 0 = (0, []) := by rw [hA]; rfl
  have AM : A M = A n := by rw [hA]; exact allU_more M hn (fun i a _ => hod2 i a)
  have Ay : ∀ (k n' : Nat) (T : Nat → Int), k < n → TXT σ (3 * g k + t) n' T → 0 < n' → A (k + 1) = ((A k).1 + 1, (A k).2 ++ capU (decide (fmt ≠ 0)) ((A k).1 + 1) (σ 13 (g k)) (σ 14 (g k)) (σ 26 (g k)) T (rws T (σ 0 12) n')) := fun k n' T hk hT h0 => by
    rw [hA]
    exact allU_y (c := g k) (show cap (σ 13) M (k : Int) M = (g k : Int) by rw [hod k hk]; exact (g1 k hk).1) (TXT_tv hT) h0
  have An : ∀ (k n' : Nat) (T : Nat → Int), k < n → TXT σ (3 * g k + t) n' T → n' = 0 → A (k + 1) = A k := fun k n' T hk hT h0 => by
    rw [hA]
    refine allU_n (Or.inr ⟨g k, ?_, ?_⟩)
    · show cap (σ 13) M (k : Int) M = (g k : Int)
      rw [hod k hk]; exact (g1 k hk).1
    · rw [TXT_tv hT, h0]; rfl
  rw [← hA, AM] at h
  clear hA AM hod hod2 g2 g3
  refine zW_rule (fun v σ' m => ∃ k : Nat, (k ≤ n) ∧ v = [0, fmt, (t : Int), (n : Int), (A k).1, (k : Int)] ∧ m = n - k ∧ sm pWA σ σ' ∧ σ' 29 = σ1 29 ∧ PG σ' (A k).2 ∧ (A k).2.length ≤ 150 * k ∧ 0 ≤ (A k).1 ∧ (A k).1 ≤ k) _ ⟨0, by omega, by rw [A0]; rfl, rfl, sm_up (sm_w s1 pWA_or) rfl, rfl, by rw [A0]; exact ⟨ho_upE, AR_nil⟩, by rw [A0]; exact Nat.le_refl _, by rw [A0]; exact Int.le_refl _, by rw [A0]; exact Int.le_refl _⟩ ?_
  rintro v σ' m ⟨k, hk, rfl, rfl, hs, h29, hP, b1, b2, b3⟩ KK KE hKK hKE
  simp only [u_eC, u_eV, u_eF, u_eR, u_eI, u_eL, u_eB, u_eD, u_eM, u_eU, u_aN, u_aC, u_eK, u_eT, u_cLt, u_cLe, u_cGt, u_cGe, u_cEq, u_cNe, u_cAnd, u_cOr, u_cNot, u_zN, u_zS, u_zD, u_zL, u_zI, u_zB, u_zP, u_zF, u_zA, u_zU, u_zC, u_zR, u_zRZ, u_zRC, u_zRV, u_zT, u_zE, u_zK, u_zY, ho_nid, List.getD_cons_zero, List.getD_cons_succ, List.set_cons_zero, List.set_cons_succ, List.cons_append, List.nil_append, List.take_succ_cons, List.take_zero, Int.reduceToNat, Int.toNat_natCast, nN_0, nN_1, nN_2, nN_3, nN_4, nN_5, nN_6, nN_7, nN_8, nN_9, nN_10, nN_11, nN_12, nN_13, nN_14, nN_15, nN_16, nN_17, nN_18, nN_19, nN_20, nN_21, nN_22, nN_23, nN_24, nN_25, nN_26, nN_27, nN_28, nN_29, nN_30, nN_31, nN_32, nN_33, nN_34, nN_35, nN_36, nN_37, nN_38, nN_39, nN_40, nN_41, nN_42, nN_43, nN_44, nN_45, nN_46, nN_47, nN_48, nN_49, nN_50, nN_51, nN_52, nN_53, nN_54, nR_0_0, nR_0_1, nR_0_2, nR_0_3, nR_0_4, nR_0_5, nR_0_6, nR_0_7, nR_0_8, nR_0_9, nR_0_10, nR_1_0, nR_1_1, nR_1_2, nR_1_3, nR_1_4, nR_2_0, nR_2_1, nR_2_2, nR_2_3, nR_2_4, nR_3_0, nR_3_1, nR_4_2, nR_5_2, nR_6_0, nR_6_1, nR_6_2, nR_7_0, nR_30_2, nR_30_3, nR_30_4, nR_30_6, nR_30_7, nR_30_9, nR_30_10, nR_30_11, nR_30_12, nR_30_13, nR_30_14, nR_30_15, nR_30_16, nR_30_18, nR_30_19, nR_30_20, nR_30_21, nR_30_22, nR_30_23, nR_30_24, nR_30_28, nR_30_29, nR_30_31, sp_item, inc (show k < 100000 by omega)]
  refine ⟨fun c1 => ?_, fun c1 => hKE _ ?_⟩
  · have hkn : k < n := by omega
    have gk := g1 k hkn
    have hgM := gk.2.1
    rw [gi29 (by omega), h29, gk.1]
    refine sp_textOf.mpr ?_
    rw [o3c (by omega) (by omega)]
    obtain ⟨n', T, hT, hG⟩ := hz (3 * g k + t) (by omega)
    have hn9 := hT.2.1
    have hT' := TXT_sm hT hs (fun _ => rfl) (fun _ => rfl)
    refine (sp_sizeT (by omega) hT').mpr ?_
    have tc := hTM (g k) hgM
    have ts := gk.2.2
    refine ⟨fun c2 => ?_, fun c2 => ?_⟩
    · have h0 : 0 < n' := by omega
      have Ak := Ay k n' T hkn hT h0
      have w1 : ho_w ((A k).1 + 1) = (A k).1 + 1 := wE (by omega) (by omega)
      rw [w1]
      clear w1
      refine sp_divide (by omega) hT' (fun σ2 s2 d3 _ dR => ?_)
      have eW : σ' 0 12 = σ 0 12 := hs 0 12 rfl
      rw [eW] at d3 dR
      have H2 := rws_HR d3 dR
      have hT2 := TXT_sm hT' s2 (fun _ => rfl) (fun _ => rfl)
      have s02 : sm pWA σ σ2 := sm_tr hs (sm_w s2 pWA_ly)
      have P2 : PG σ2 (A k).2 := by
        unfold PG
        rw [s2 7 1 rfl, sm_fn s2 25 (fun _ => rfl)]
        exact hP
      have nx : ∀ σ3 : ho_S, sm pPg σ2 σ3 → PG σ3 ((A k).2 ++ capU (decide (fmt ≠ 0)) ((A k).1 + 1) (σ 13 (g k)) (σ 14 (g k)) (σ 26 (g k)) T (rws T (σ 0 12) n')) → KK [0, fmt, (t : Int), (n : Int), (A k).1 + 1, ((k + 1 : Nat) : Int)] σ3 := by
        intro σ3 s3 P3
        have cl := capU_len (fmt := decide (fmt ≠ 0)) (num := (A k).1 + 1) (lk := σ 26 (g k)) (T := T) (W := σ 0 12) hn9 (by omega) (show 0 ≤ σ 13 (g k) by omega) tc.1 (by omega)
        refine hKK _ _ (n - (k + 1)) (by omega) ⟨k + 1, by omega, by rw [Ak], rfl, sm_tr s02 (sm_w s3 pWA_pg), ?_, by rw [Ak]; exact P3, ?_, ?_, ?_⟩
        · rw [sm_fn s3 29 (fun _ => rfl), sm_fn s2 29 (fun _ => rfl)]; exact h29
        · rw [Ak]; dsimp only; rw [List.length_append]; omega
        · rw [Ak]; dsimp only; omega
        · rw [Ak]; dsimp only; omega
      have e13 : σ2 13 (g k) = σ 13 (g k) := s02 13 _ rfl
      have e14 : σ2 14 (g k) = σ 14 (g k) := s02 14 _ rfl
      have e26 : σ2 26 (g k) = σ 26 (g k) := s02 26 _ rfl
      refine ⟨fun c3 => ?_, fun c3 => ?_⟩
      · rw [decide_eq_false (show ¬ fmt ≠ 0 from fun z => z c3)] at nx
        exact sp_writeNumbered (by omega) (by omega) hT2 hG H2 e13 e14 e26 (by omega) tc.1 (by omega) (by omega) (by omega) P2 (by omega) nx
      · rw [decide_eq_true (show fmt ≠ 0 from c3)] at nx
        exact sp_writeBraced (by omega) (by omega) hT2 hG H2 e13 e14 e26 (by omega) tc.1 (by omega) P2 (by omega) nx
    · have Ak := An k n' T hkn hT (by omega)
      refine hKK _ _ (n - (k + 1)) (by omega) ⟨k + 1, by omega, by rw [Ak], rfl, hs, h29, by rw [Ak]; exact hP, by rw [Ak]; omega, by rw [Ak]; exact b2, by rw [Ak]; omega⟩
  · have hkn : k = n := by omega
    subst hkn
    exact h σ' hs hP (by omega)
-- the model's
def OT (σ : ho_S) (L : List Int) : Prop := σ 30 30 = (L.length : Int) ∧ AR (σ 53) L
theorem sp_writes {u : Int} {L : List Int} {σ : ho_S} {Q : ho_K} {X : ho_X} (hL : OT σ L) (hc : L.length < 6000) (h : ∀ σ', sm pOt σ σ' → OT σ' (L ++ [u]) → Q 0 σ') : mX7_writes [30, u] σ Q X := by
  obtain ⟨h1, h2⟩ := hL
  simp only [mX7_writes, fX7_writes, u_eC, u_eV, u_eF, u_eR, u_eI, u_eL, u_eB, u_eD, u_eM, u_eU, u_aN, u_aC, u_eK, u_eT, u_cLt, u_cLe, u_cGt, u_cGe, u_cEq, u_cNe, u_cAnd, u_cOr, u_cNot, u_zN, u_zS, u_zD, u_zL, u_zI, u_zB, u_zP, u_zF, u_zA, u_zU, u_zC, u_zR, u_zRZ, u_zRC, u_zRV, u_zT, u_zE, u_zK, u_zY, ho_nid, List.getD_cons_zero, List.getD_cons_succ, List.set_cons_zero, List.set_cons_succ, List.cons_append, List.nil_append, List.take_succ_cons, List.take_zero, Int.reduceToNat, Int.toNat_natCast, nN_0, nN_1, nN_2, nN_3, nN_4, nN_5, nN_6, nN_7, nN_8, nN_9, nN_10, nN_11, nN_12, nN_13, nN_14, nN_15, nN_16, nN_17, nN_18, nN_19, nN_20, nN_21, nN_22, nN_23, nN_24, nN_25, nN_26, nN_27, nN_28, nN_29, nN_30, nN_31, nN_32, nN_33, nN_34, nN_35, nN_36, nN_37, nN_38, nN_39, nN_40, nN_41, nN_42, nN_43, nN_44, nN_45, nN_46, nN_47, nN_48, nN_49, nN_50, nN_51, nN_52, nN_53, nN_54, nR_0_0, nR_0_1, nR_0_2, nR_0_3, nR_0_4, nR_0_5, nR_0_6, nR_0_7, nR_0_8, nR_0_9, nR_0_10, nR_1_0, nR_1_1, nR_1_2, nR_1_3, nR_1_4, nR_2_0, nR_2_1, nR_2_2, nR_2_3, nR_2_4, nR_3_0, nR_3_1, nR_4_2, nR_5_2, nR_6_0, nR_6_1, nR_6_2, nR_7_0, nR_30_2, nR_30_3, nR_30_4, nR_30_6, nR_30_7, nR_30_9, nR_30_10, nR_30_11, nR_30_12, nR_30_13, nR_30_14, nR_30_15, nR_30_16, nR_30_18, nR_30_19, nR_30_20, nR_30_21, nR_30_22, nR_30_23, nR_30_24, nR_30_28, nR_30_29, nR_30_31]
  simp only [mR_30_2, mR_30_3, mR_30_4, mR_30_6, mR_30_7, mR_30_9, mR_30_10, mR_30_11, mR_30_12, mR_30_13, mR_30_14, mR_30_15, mR_30_16, mR_30_18, mR_30_19, mR_30_20, mR_30_21, mR_30_22, mR_30_23, mR_30_24, mR_30_28, mR_30_29, mR_30_31, mR_0_9, mR_7_0, nN_25, nN_26, nN_27, nN_28, nN_29, nN_30, nN_31, nN_32, nN_33, nN_34, nN_35, nN_36, nN_37, nN_38, nN_39, nN_40, nN_41, nN_42, nN_43, nN_44, nN_45, nN_46, nN_47, nN_48, nN_49, nN_50, nN_51, nN_52, nN_53, nN_54, Int.toNat_natCast, saF, saE, ho_upF, ho_upE, ne_eq, not_false_eq_true, Nat.reduceEqDiff, h1, oinc (show L.length < 100000 by omega)]
  refine ⟨by omega, h _ (sm_up (sm_up sm_rf rfl) rfl) ⟨?_, AR_app h2 ?_ (fun i hi => ?_)⟩⟩
  · rw [ho_upE, List.length_append]; rfl
  · show ho_up σ 53 L.length _ 53 L.length = _
    exact ho_upE
  · show ho_up σ 53 L.length _ 53 i = _
    exact ho_upJ (Nat.ne_of_lt hi)
theorem un_andM {x : Nat} (h1 : 65536 ≤ x) (h2 : x ≤ 131071) : ho_oadd 56320 (ho_oand (ho_osub (x : Int) 65536) 1023) = 56320 + (x : Int) % 1024 := by
  have a : ho_osub (x : Int) 65536 = ((x - 65536 : Nat) : Int) := by rw [wsu (by omega) (by omega)]; omega
  rw [a, un_and (by omega)]
  clear a
  omega
theorem sp_writesSign {s : Int} {L : List Int} {σ : ho_S} {Q : ho_K} {X : ho_X} (h0 : 0 ≤ s) (hs : s ≤ 131071) (hL : OT σ L) (hc : L.length + 2 ≤ 6000) (h : ∀ σ', sm pOt σ σ' → OT σ' (L ++ un s) → Q 0 σ') : mX7_writesSign [30, s] σ Q X := by
  obtain ⟨x, rfl⟩ : ∃ x : Nat, s = (x : Int) := ⟨s.toNat, by omega⟩
  simp only [mX7_writesSign, fX7_writesSign, u_eC, u_eV, u_eF, u_eR, u_eI, u_eL, u_eB, u_eD, u_eM, u_eU, u_aN, u_aC, u_eK, u_eT, u_cLt, u_cLe, u_cGt, u_cGe, u_cEq, u_cNe, u_cAnd, u_cOr, u_cNot, u_zN, u_zS, u_zD, u_zL, u_zI, u_zB, u_zP, u_zF, u_zA, u_zU, u_zC, u_zR, u_zRZ, u_zRC, u_zRV, u_zT, u_zE, u_zK, u_zY, ho_nid, List.getD_cons_zero, List.getD_cons_succ, List.set_cons_zero, List.set_cons_succ, List.cons_append, List.nil_append, List.take_succ_cons, List.take_zero, Int.reduceToNat, Int.toNat_natCast, nN_0, nN_1, nN_2, nN_3, nN_4, nN_5, nN_6, nN_7, nN_8, nN_9, nN_10, nN_11, nN_12, nN_13, nN_14, nN_15, nN_16, nN_17, nN_18, nN_19, nN_20, nN_21, nN_22, nN_23, nN_24, nN_25, nN_26, nN_27, nN_28, nN_29, nN_30, nN_31, nN_32, nN_33, nN_34, nN_35, nN_36, nN_37, nN_38, nN_39, nN_40, nN_41, nN_42, nN_43, nN_44, nN_45, nN_46, nN_47, nN_48, nN_49, nN_50, nN_51, nN_52, nN_53, nN_54, nR_0_0, nR_0_1, nR_0_2, nR_0_3, nR_0_4, nR_0_5, nR_0_6, nR_0_7, nR_0_8, nR_0_9, nR_0_10, nR_1_0, nR_1_1, nR_1_2, nR_1_3, nR_1_4, nR_2_0, nR_2_1, nR_2_2, nR_2_3, nR_2_4, nR_3_0, nR_3_1, nR_4_2, nR_5_2, nR_6_0, nR_6_1, nR_6_2, nR_7_0, nR_30_2, nR_30_3, nR_30_4, nR_30_6, nR_30_7, nR_30_9, nR_30_10, nR_30_11, nR_30_12, nR_30_13, nR_30_14, nR_30_15, nR_30_16, nR_30_18, nR_30_19, nR_30_20, nR_30_21, nR_30_22, nR_30_23, nR_30_24, nR_30_28, nR_30_29, nR_30_31]
  refine ⟨fun c1 => ?_, fun c1 => ?_⟩
  · have e : un (x : Int) = [(x : Int)] := if_pos c1
    rw [e] at h
    exact sp_writes hL (by omega) h
  · have e : un (x : Int) = [55296 + ((x : Int) - 65536) / 1024, 56320 + (x : Int) % 1024] := if_neg (by omega)
    rw [e] at h
    rw [un_shr (by omega) (by omega), un_andM (by omega) (by omega)]
    refine sp_writes hL (by omega) (fun σ1 s1 L1 => ?_)
    refine sp_writes L1 (by rw [List.length_append]; simp only [List.length_cons, List.length_nil]; omega) (fun σ2 s2 L2 => h σ2 (sm_tr s1 s2) ?_)
    rw [List.append_assoc] at L2
    exact L2
theorem sp_writesNumber {v : Int} {L : List Int} {σ : ho_S} {Q : ho_K} {X : ho_X} (h0 : 0 ≤ v) (h9 : v ≤ 9999) (hL : OT σ L) (hc : L.length + 4 ≤ 6000) (h : ∀ σ', sm pOt σ σ' → OT σ' (L ++ dg v) → Q 0 σ') : mX7_writesNumber [30, v] σ Q X := by
  simp only [mX7_writesNumber, fX7_writesNumber, u_eC, u_eV, u_eF, u_eR, u_eI, u_eL, u_eB, u_eD, u_eM, u_eU, u_aN, u_aC, u_eK, u_eT, u_cLt, u_cLe, u_cGt, u_cGe, u_cEq, u_cNe, u_cAnd, u_cOr, u_cNot, u_zN, u_zS, u_zD, u_zL, u_zI, u_zB, u_zP, u_zF, u_zA, u_zU, u_zC, u_zR, u_zRZ, u_zRC, u_zRV, u_zT, u_zE, u_zK, u_zY, ho_nid, List.getD_cons_zero, List.getD_cons_succ, List.set_cons_zero, List.set_cons_succ, List.cons_append, List.nil_append, List.take_succ_cons, List.take_zero, Int.reduceToNat, Int.toNat_natCast, nN_0, nN_1, nN_2, nN_3, nN_4, nN_5, nN_6, nN_7, nN_8, nN_9, nN_10, nN_11, nN_12, nN_13, nN_14, nN_15, nN_16, nN_17, nN_18, nN_19, nN_20, nN_21, nN_22, nN_23, nN_24, nN_25, nN_26, nN_27, nN_28, nN_29, nN_30, nN_31, nN_32, nN_33, nN_34, nN_35, nN_36, nN_37, nN_38, nN_39, nN_40, nN_41, nN_42, nN_43, nN_44, nN_45, nN_46, nN_47, nN_48, nN_49, nN_50, nN_51, nN_52, nN_53, nN_54, nR_0_0, nR_0_1, nR_0_2, nR_0_3, nR_0_4, nR_0_5, nR_0_6, nR_0_7, nR_0_8, nR_0_9, nR_0_10, nR_1_0, nR_1_1, nR_1_2, nR_1_3, nR_1_4, nR_2_0, nR_2_1, nR_2_2, nR_2_3, nR_2_4, nR_3_0, nR_3_1, nR_4_2, nR_5_2, nR_6_0, nR_6_1, nR_6_2, nR_7_0, nR_30_2, nR_30_3, nR_30_4, nR_30_6, nR_30_7, nR_30_9, nR_30_10, nR_30_11, nR_30_12, nR_30_13, nR_30_14, nR_30_15, nR_30_16, nR_30_18, nR_30_19, nR_30_20, nR_30_21, nR_30_22, nR_30_23, nR_30_24, nR_30_28, nR_30_29, nR_30_31]
  refine zW_rule (fun w σ' m => ∃ k : Nat, (k ≤ 3) ∧ w = [30, v, s10 k] ∧ m = k ∧ σ' = σ ∧ (k = 3 ∨ s10 k ≤ v)) _ ⟨3, by omega, rfl, rfl, rfl, Or.inl rfl⟩ ?_
  rintro w σ' m ⟨k, hk, rfl, hm, rfl, hv⟩ KK KE hKK hKE
  have kk : k = 0 ∨ k = 1 ∨ k = 2 ∨ k = 3 := by omega
  have second : (k = 3 ∨ s10 k ≤ v) → v < 10 * s10 k → zW (cGt (eV 2) (eC 0)) (zS (zK mX7_writes (aC (eV 0) (aC (eB ho_oadd (eC 48) (eM (eD (eV 1) (eV 2)) (eC 10))) aN))) (zL 2 (eD (eV 2) (eC 10)))) [30, v, s10 k] σ' (fun _ σ => Q 0 σ) Q X := by
    intro hv1 hv2
    refine zW_rule (fun w σ1 m => ∃ j : Nat, (k ≤ j) ∧ (j ≤ 4) ∧ w = [30, v, s10 j] ∧ m = 4 - j ∧ sm pOt σ' σ1 ∧ OT σ1 (L ++ dgk v j)) _ ⟨k, Nat.le_refl _, by omega, rfl, rfl, sm_rf, by rw [dgk_small hk hv2, List.append_nil]; exact hL⟩ ?_
    rintro w σ1 m ⟨j, hkj, hj, rfl, rfl, s1, P1⟩ K2 KE2 hK2 hE2
    have dl := dgk_len v j
    have big : j < 4 → (s10 j ≤ v ∨ j = 3) := by
      intro hj4
      have jj : j = 3 ∨ j = 0 ∨ j = 1 ∨ j = 2 := by omega
      rcases jj with rfl | jj
      · exact Or.inr rfl
      · refine Or.inl ?_
        rcases jj with rfl | rfl | rfl <;> rcases kk with rfl | rfl | rfl | rfl <;> simp only [s10_0, s10_1, s10_2, s10_3] at hv1 ⊢ <;> omega
    simp only [u_eC, u_eV, u_eF, u_eR, u_eI, u_eL, u_eB, u_eD, u_eM, u_eU, u_aN, u_aC, u_eK, u_eT, u_cLt, u_cLe, u_cGt, u_cGe, u_cEq, u_cNe, u_cAnd, u_cOr, u_cNot, u_zN, u_zS, u_zD, u_zL, u_zI, u_zB, u_zP, u_zF, u_zA, u_zU, u_zC, u_zR, u_zRZ, u_zRC, u_zRV, u_zT, u_zE, u_zK, u_zY, ho_nid, List.getD_cons_zero, List.getD_cons_succ, List.set_cons_zero, List.set_cons_succ, List.cons_append, List.nil_append, List.take_succ_cons, List.take_zero, Int.reduceToNat, Int.toNat_natCast, nN_0, nN_1, nN_2, nN_3, nN_4, nN_5, nN_6, nN_7, nN_8, nN_9, nN_10, nN_11, nN_12, nN_13, nN_14, nN_15, nN_16, nN_17, nN_18, nN_19, nN_20, nN_21, nN_22, nN_23, nN_24, nN_25, nN_26, nN_27, nN_28, nN_29, nN_30, nN_31, nN_32, nN_33, nN_34, nN_35, nN_36, nN_37, nN_38, nN_39, nN_40, nN_41, nN_42, nN_43, nN_44, nN_45, nN_46, nN_47, nN_48, nN_49, nN_50, nN_51, nN_52, nN_53, nN_54, nR_0_0, nR_0_1, nR_0_2, nR_0_3, nR_0_4, nR_0_5, nR_0_6, nR_0_7, nR_0_8, nR_0_9, nR_0_10, nR_1_0, nR_1_1, nR_1_2, nR_1_3, nR_1_4, nR_2_0, nR_2_1, nR_2_2, nR_2_3, nR_2_4, nR_3_0, nR_3_1, nR_4_2, nR_5_2, nR_6_0, nR_6_1, nR_6_2, nR_7_0, nR_30_2, nR_30_3, nR_30_4, nR_30_6, nR_30_7, nR_30_9, nR_30_10, nR_30_11, nR_30_12, nR_30_13, nR_30_14, nR_30_15, nR_30_16, nR_30_18, nR_30_19, nR_30_20, nR_30_21, nR_30_22, nR_30_23, nR_30_24, nR_30_28, nR_30_29, nR_30_31]
    have put : ∀ (u y : Int), j < 4 → u = 48 + v / s10 j % 10 → y = s10 (j + 1) → mX7_writes [30, u] σ1 (fun _ σ => (10 : Int) ≠ 0 ∧ K2 [30, v, y] σ) X := by
      intro u y hj4 e1 e2
      refine sp_writes P1 (by rw [List.length_append]; omega) (fun σ2 s2 L2 => ⟨by omega, ?_⟩)
      rw [e2]
      refine hK2 _ _ (4 - (j + 1)) (by omega) ⟨j + 1, by omega, by omega, rfl, rfl, sm_tr s1 s2, ?_⟩
      rw [dgk_y (big hj4), ← List.append_assoc, ← e1]
      exact L2
    have dv : ∀ y : Int, y = s10 j → (0 < y) → ho_oadd 48 (ho_w (Int.tmod (ho_w (Int.tdiv v y)) 10)) = 48 + v / s10 j % 10 := by
      intro y hy hy0
      rw [← hy]
      have a : 0 ≤ v / y := Int.ediv_nonneg h0 (by omega)
      have b : v / y ≤ v := Int.ediv_le_self _ h0
      rw [td h0, wE (x := v / y) (by omega) (by omega), tmod_emod a, wE (x := v / y % 10) (by omega) (by omega), wad (by omega) (by omega)]
    have jj : j = 0 ∨ j = 1 ∨ j = 2 ∨ j = 3 ∨ j = 4 := by omega
    rcases jj with rfl | rfl | rfl | rfl | rfl
    · simp only [s10_0] at ⊢ dv
      exact ⟨fun c2 => ⟨by omega, by omega, put _ _ (by omega) (dv 1000 rfl (by omega)) (by decide)⟩, fun c2 => absurd c2 (by omega)⟩
    · simp only [s10_1] at ⊢ dv
      exact ⟨fun c2 => ⟨by omega, by omega, put _ _ (by omega) (dv 100 rfl (by omega)) (by decide)⟩, fun c2 => absurd c2 (by omega)⟩
    · simp only [s10_2] at ⊢ dv
      exact ⟨fun c2 => ⟨by omega, by omega, put _ _ (by omega) (dv 10 rfl (by omega)) (by decide)⟩, fun c2 => absurd c2 (by omega)⟩
    · simp only [s10_3] at ⊢ dv
      exact ⟨fun c2 => ⟨by omega, by omega, put _ _ (by omega) (dv 1 rfl (by omega)) (by decide)⟩, fun c2 => absurd c2 (by omega)⟩
    · simp only [s10_4]
      exact ⟨fun c2 => absurd c2 (by omega), fun c2 => hE2 _ (h σ1 s1 P1)⟩
  have more : ∀ w : Nat, k = w + 1 → s10 w ≤ v → ∀ y : Int, y = s10 w → KK [30, v, y] σ' := fun w hw hv2 y hy => by
    rw [hy]
    exact hKK _ _ w (by omega) ⟨w, by omega, rfl, rfl, rfl, Or.inr hv2⟩
  simp only [u_eC, u_eV, u_eF, u_eR, u_eI, u_eL, u_eB, u_eD, u_eM, u_eU, u_aN, u_aC, u_eK, u_eT, u_cLt, u_cLe, u_cGt, u_cGe, u_cEq, u_cNe, u_cAnd, u_cOr, u_cNot, u_zN, u_zS, u_zD, u_zL, u_zI, u_zB, u_zP, u_zF, u_zA, u_zU, u_zC, u_zR, u_zRZ, u_zRC, u_zRV, u_zT, u_zE, u_zK, u_zY, ho_nid, List.getD_cons_zero, List.getD_cons_succ, List.set_cons_zero, List.set_cons_succ, List.cons_append, List.nil_append, List.take_succ_cons, List.take_zero, Int.reduceToNat, Int.toNat_natCast, nN_0, nN_1, nN_2, nN_3, nN_4, nN_5, nN_6, nN_7, nN_8, nN_9, nN_10, nN_11, nN_12, nN_13, nN_14, nN_15, nN_16, nN_17, nN_18, nN_19, nN_20, nN_21, nN_22, nN_23, nN_24, nN_25, nN_26, nN_27, nN_28, nN_29, nN_30, nN_31, nN_32, nN_33, nN_34, nN_35, nN_36, nN_37, nN_38, nN_39, nN_40, nN_41, nN_42, nN_43, nN_44, nN_45, nN_46, nN_47, nN_48, nN_49, nN_50, nN_51, nN_52, nN_53, nN_54, nR_0_0, nR_0_1, nR_0_2, nR_0_3, nR_0_4, nR_0_5, nR_0_6, nR_0_7, nR_0_8, nR_0_9, nR_0_10, nR_1_0, nR_1_1, nR_1_2, nR_1_3, nR_1_4, nR_2_0, nR_2_1, nR_2_2, nR_2_3, nR_2_4, nR_3_0, nR_3_1, nR_4_2, nR_5_2, nR_6_0, nR_6_1, nR_6_2, nR_7_0, nR_30_2, nR_30_3, nR_30_4, nR_30_6, nR_30_7, nR_30_9, nR_30_10, nR_30_11, nR_30_12, nR_30_13, nR_30_14, nR_30_15, nR_30_16, nR_30_18, nR_30_19, nR_30_20, nR_30_21, nR_30_22, nR_30_23, nR_30_24, nR_30_28, nR_30_29, nR_30_31]
  rcases kk with rfl | rfl | rfl | rfl
  · simp only [s10_0] at hv second ⊢
    rw [td h0, wE (x := v / 1000) (by omega) (by omega)]
    exact ⟨by omega, fun c1 => absurd c1 (by omega), fun c1 => hKE _ (second hv (by omega))⟩
  · simp only [s10_1] at hv second ⊢
    rw [td h0, wE (x := v / 100) (by omega) (by omega)]
    exact ⟨by omega, fun c1 => more 0 rfl (by rw [s10_0]; omega) _ (by decide), fun c1 => hKE _ (second hv (by omega))⟩
  · simp only [s10_2] at hv second ⊢
    rw [td h0, wE (x := v / 10) (by omega) (by omega)]
    exact ⟨by omega, fun c1 => more 1 rfl (by rw [s10_1]; omega) _ (by decide), fun c1 => hKE _ (second hv (by omega))⟩
  · simp only [s10_3] at hv second ⊢
    rw [td h0, wE (x := v / 1) (by omega) (by omega)]
    exact ⟨by omega, fun c1 => more 2 rfl (by rw [s10_2]; omega) _ (by decide), fun c1 => hKE _ (second hv (by omega))⟩
theorem sp_writesTwo {v : Int} {L : List Int} {σ : ho_S} {Q : ho_K} {X : ho_X} (h0 : 0 ≤ v) (h9 : v ≤ 99) (hL : OT σ L) (hc : L.length + 2 ≤ 6000) (h : ∀ σ', sm pOt σ σ' → OT σ' (L ++ tw v) → Q 0 σ') : mX7_writesTwo [30, v] σ Q X := by
  simp only [mX7_writesTwo, fX7_writesTwo, u_eC, u_eV, u_eF, u_eR, u_eI, u_eL, u_eB, u_eD, u_eM, u_eU, u_aN, u_aC, u_eK, u_eT, u_cLt, u_cLe, u_cGt, u_cGe, u_cEq, u_cNe, u_cAnd, u_cOr, u_cNot, u_zN, u_zS, u_zD, u_zL, u_zI, u_zB, u_zP, u_zF, u_zA, u_zU, u_zC, u_zR, u_zRZ, u_zRC, u_zRV, u_zT, u_zE, u_zK, u_zY, ho_nid, List.getD_cons_zero, List.getD_cons_succ, List.set_cons_zero, List.set_cons_succ, List.cons_append, List.nil_append, List.take_succ_cons, List.take_zero, Int.reduceToNat, Int.toNat_natCast, nN_0, nN_1, nN_2, nN_3, nN_4, nN_5, nN_6, nN_7, nN_8, nN_9, nN_10, nN_11, nN_12, nN_13, nN_14, nN_15, nN_16, nN_17, nN_18, nN_19, nN_20, nN_21, nN_22, nN_23, nN_24, nN_25, nN_26, nN_27, nN_28, nN_29, nN_30, nN_31, nN_32, nN_33, nN_34, nN_35, nN_36, nN_37, nN_38, nN_39, nN_40, nN_41, nN_42, nN_43, nN_44, nN_45, nN_46, nN_47, nN_48, nN_49, nN_50, nN_51, nN_52, nN_53, nN_54, nR_0_0, nR_0_1, nR_0_2, nR_0_3, nR_0_4, nR_0_5, nR_0_6, nR_0_7, nR_0_8, nR_0_9, nR_0_10, nR_1_0, nR_1_1, nR_1_2, nR_1_3, nR_1_4, nR_2_0, nR_2_1, nR_2_2, nR_2_3, nR_2_4, nR_3_0, nR_3_1, nR_4_2, nR_5_2, nR_6_0, nR_6_1, nR_6_2, nR_7_0, nR_30_2, nR_30_3, nR_30_4, nR_30_6, nR_30_7, nR_30_9, nR_30_10, nR_30_11, nR_30_12, nR_30_13, nR_30_14, nR_30_15, nR_30_16, nR_30_18, nR_30_19, nR_30_20, nR_30_21, nR_30_22, nR_30_23, nR_30_24, nR_30_28, nR_30_29, nR_30_31]
  rw [td h0, tmod_emod h0, wE (x := v / 10) (by omega) (by omega), wE (x := v % 10) (by omega) (by omega), wad (by omega) (by omega), wad (by omega) (by omega)]
  refine ⟨by omega, sp_writes hL (by omega) (fun σ1 s1 L1 => ⟨by omega, ?_⟩)⟩
  refine sp_writes L1 (by rw [List.length_append]; simp only [List.length_cons, List.length_nil]; omega) (fun σ2 s2 L2 => h σ2 (sm_tr s1 s2) ?_)
  rw [List.append_assoc] at L2
  exact L2
theorem sp_writesTime {v : Int} {L : List Int} {σ : ho_S} {Q : ho_K} {X : ho_X} (h0 : 0 ≤ v) (h9 : v ≤ 4800) (hL : OT σ L) (hc : L.length + 14 ≤ 6000) (h : ∀ σ', sm pOt σ σ' → OT σ' (L ++ tmL v) → Q 0 σ') : mX7_writesTime [30, v] σ Q X := by
  have d9 := dg_len1 (v := v / 1500) (by omega)
  simp only [mX7_writesTime, fX7_writesTime, u_eC, u_eV, u_eF, u_eR, u_eI, u_eL, u_eB, u_eD, u_eM, u_eU, u_aN, u_aC, u_eK, u_eT, u_cLt, u_cLe, u_cGt, u_cGe, u_cEq, u_cNe, u_cAnd, u_cOr, u_cNot, u_zN, u_zS, u_zD, u_zL, u_zI, u_zB, u_zP, u_zF, u_zA, u_zU, u_zC, u_zR, u_zRZ, u_zRC, u_zRV, u_zT, u_zE, u_zK, u_zY, ho_nid, List.getD_cons_zero, List.getD_cons_succ, List.set_cons_zero, List.set_cons_succ, List.cons_append, List.nil_append, List.take_succ_cons, List.take_zero, Int.reduceToNat, Int.toNat_natCast, nN_0, nN_1, nN_2, nN_3, nN_4, nN_5, nN_6, nN_7, nN_8, nN_9, nN_10, nN_11, nN_12, nN_13, nN_14, nN_15, nN_16, nN_17, nN_18, nN_19, nN_20, nN_21, nN_22, nN_23, nN_24, nN_25, nN_26, nN_27, nN_28, nN_29, nN_30, nN_31, nN_32, nN_33, nN_34, nN_35, nN_36, nN_37, nN_38, nN_39, nN_40, nN_41, nN_42, nN_43, nN_44, nN_45, nN_46, nN_47, nN_48, nN_49, nN_50, nN_51, nN_52, nN_53, nN_54, nR_0_0, nR_0_1, nR_0_2, nR_0_3, nR_0_4, nR_0_5, nR_0_6, nR_0_7, nR_0_8, nR_0_9, nR_0_10, nR_1_0, nR_1_1, nR_1_2, nR_1_3, nR_1_4, nR_2_0, nR_2_1, nR_2_2, nR_2_3, nR_2_4, nR_3_0, nR_3_1, nR_4_2, nR_5_2, nR_6_0, nR_6_1, nR_6_2, nR_7_0, nR_30_2, nR_30_3, nR_30_4, nR_30_6, nR_30_7, nR_30_9, nR_30_10, nR_30_11, nR_30_12, nR_30_13, nR_30_14, nR_30_15, nR_30_16, nR_30_18, nR_30_19, nR_30_20, nR_30_21, nR_30_22, nR_30_23, nR_30_24, nR_30_28, nR_30_29, nR_30_31]
  rw [td h0, td h0, tmod_emod h0, wE (x := v / 1500) (by omega) (by omega), wE (x := v / 25) (by omega) (by omega), tmod_emod (show 0 ≤ v / 25 by omega), wE (x := v / 25 % 60) (by omega) (by omega), wE (x := v % 25) (by omega) (by omega)]
  refine ⟨by omega, sp_writesNumber (by omega) (by omega) hL (by omega) (fun σ1 s1 L1 => ?_)⟩
  have l1 : (L ++ dg (v / 1500)).length = L.length + 1 := by rw [List.length_append, d9]
  refine sp_writes L1 (by omega) (fun σ2 s2 L2 => ⟨by omega, by omega, ?_⟩)
  have l2 : (L ++ dg (v / 1500) ++ [58]).length = L.length + 2 := by rw [List.length_append, l1]; rfl
  refine sp_writesTwo (by omega) (by omega) L2 (by omega) (fun σ3 s3 L3 => ?_)
  have l3 : (L ++ dg (v / 1500) ++ [58] ++ tw (v / 25 % 60)).length = L.length + 4 := by rw [List.length_append, l2]; rfl
  refine sp_writes L3 (by omega) (fun σ4 s4 L4 => ⟨by omega, ?_⟩)
  have l4 : (L ++ dg (v / 1500) ++ [58] ++ tw (v / 25 % 60) ++ [58]).length = L.length + 5 := by rw [List.length_append, l3]; rfl
  refine sp_writesTwo (by omega) (by omega) L4 (by omega) (fun σ5 s5 L5 => h σ5 (sm_tr s1 (sm_tr s2 (sm_tr s3 (sm_tr s4 s5)))) ?_)
  unfold tmL
  simp only [List.append_assoc] at L5
  exact L5
