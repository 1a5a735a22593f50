theorem prt_pos {T : Nat → Int} {W : Int} {a b : Nat} : 0 < (prt T W a b).length := by
  unfold prt
  split
  · exact Nat.zero_lt_succ _
  · exact Nat.zero_lt_succ _
theorem rws_pos {T : Nat → Int} {W : Int} {n : Nat} (h : 0 < n) : 0 < (rws T W n).length := by
  unfold rws
  rw [if_neg (by omega), List.length_append]
  have := prt_pos (T := T) (W := W) (a := (acc T W n).1) (b := n)
  omega
/-- the model's rows, as those of a text -/
def MH (σ : ho_S) (n : Nat) (l : List (Nat × Nat)) : Prop := σ 30 27 = (l.length : Int) ∧ RW (σ 51) (σ 52) l ∧ (∀ p ∈ l, p.1 ≤ p.2 ∧ p.2 ≤ n) ∧ l.length ≤ n + 1 ∧ tot l ≤ n + 1
theorem MH_sm {σ τ : ho_S} {n : Nat} {l : List (Nat × Nat)} (h : MH σ n l) (s : sm pOt σ τ) : MH τ n l := by
  unfold MH at h ⊢
  rw [s 30 27 rfl, sm_fn s 51 (fun _ => rfl), sm_fn s 52 (fun _ => rfl)]
  exact h
theorem sp_writesRow {T : Nat → Int} {t n k : Nat} {p : Nat × Nat} {L : List Int} {σ : ho_S} {Q : ho_K} {X : ho_X} (ht : t < 48) (hk : k < 61) (hT : MTX σ t n T) (hG : SG T n) (h1 : σ 51 k = (p.1 : Int)) (h2 : σ 52 k = (p.2 : Int)) (hp : p.1 ≤ p.2 ∧ p.2 ≤ n) (hL : OT σ L) (hc : L.length + 124 ≤ 6000)
    (h : ∀ σ', sm pOt σ σ' → OT σ' (L ++ rowU T p) → Q 0 σ') : mX7_writesRow [30, (t : Int), (k : Int)] σ Q X := by
  have hn := hT.2.1
  simp only [mX7_writesRow, fX7_writesRow, u_eC, u_eV, u_eF, u_eR, u_eI, u_eL, u_eB, u_eD, u_eM, u_eU, u_aN, u_aC, u_eK, u_eT, u_cLt, u_cLe, u_cGt, u_cGe, u_cEq, u_cNe, u_cAnd, u_cOr, u_cNot, u_zN, u_zS, u_zD, u_zL, u_zI, u_zB, u_zP, u_zF, u_zA, u_zU, u_zC, u_zR, u_zRZ, u_zRC, u_zRV, u_zT, u_zE, u_zK, u_zY, ho_nid, List.getD_cons_zero, List.getD_cons_succ, List.set_cons_zero, List.set_cons_succ, List.cons_append, List.nil_append, List.take_succ_cons, List.take_zero, Int.reduceToNat, Int.toNat_natCast, nN_0, nN_1, nN_2, nN_3, nN_4, nN_5, nN_6, nN_7, nN_8, nN_9, nN_10, nN_11, nN_12, nN_13, nN_14, nN_15, nN_16, nN_17, nN_18, nN_19, nN_20, nN_21, nN_22, nN_23, nN_24, nN_25, nN_26, nN_27, nN_28, nN_29, nN_30, nN_31, nN_32, nN_33, nN_34, nN_35, nN_36, nN_37, nN_38, nN_39, nN_40, nN_41, nN_42, nN_43, nN_44, nN_45, nN_46, nN_47, nN_48, nN_49, nN_50, nN_51, nN_52, nN_53, nN_54, nR_0_0, nR_0_1, nR_0_2, nR_0_3, nR_0_4, nR_0_5, nR_0_6, nR_0_7, nR_0_8, nR_0_9, nR_0_10, nR_1_0, nR_1_1, nR_1_2, nR_1_3, nR_1_4, nR_2_0, nR_2_1, nR_2_2, nR_2_3, nR_2_4, nR_3_0, nR_3_1, nR_4_2, nR_5_2, nR_6_0, nR_6_1, nR_6_2, nR_7_0, nR_30_2, nR_30_3, nR_30_4, nR_30_6, nR_30_7, nR_30_9, nR_30_10, nR_30_11, nR_30_12, nR_30_13, nR_30_14, nR_30_15, nR_30_16, nR_30_18, nR_30_19, nR_30_20, nR_30_21, nR_30_22, nR_30_23, nR_30_24, nR_30_28, nR_30_29, nR_30_31]
  simp only [mR_30_2, mR_30_3, mR_30_4, mR_30_6, mR_30_7, mR_30_9, mR_30_10, mR_30_11, mR_30_12, mR_30_13, mR_30_14, mR_30_15, mR_30_16, mR_30_18, mR_30_19, mR_30_20, mR_30_21, mR_30_22, mR_30_23, mR_30_24, mR_30_28, mR_30_29, mR_30_31, mR_0_9, mR_7_0, nN_25, nN_26, nN_27, nN_28, nN_29, nN_30, nN_31, nN_32, nN_33, nN_34, nN_35, nN_36, nN_37, nN_38, nN_39, nN_40, nN_41, nN_42, nN_43, nN_44, nN_45, nN_46, nN_47, nN_48, nN_49, nN_50, nN_51, nN_52, nN_53, nN_54, Int.toNat_natCast, h1]
  refine ⟨by omega, ?_⟩
  refine zW_rule (fun v σ2 m => ∃ j : Nat, (j ≤ p.2 - p.1) ∧ v = [30, (t : Int), (k : Int), ((p.1 + j : Nat) : Int)] ∧ m = p.2 - p.1 - j ∧ sm pOt σ σ2 ∧ OT σ2 (L ++ segU T p.1 j)) _ ⟨0, by omega, rfl, rfl, sm_rf, by rw [show segU T p.1 0 = [] from rfl, List.append_nil]; exact hL⟩ ?_
  rintro v σ2 m ⟨j, hj, rfl, rfl, s2, P2⟩ K2 KE2 hK2 hE2
  have hT2 := MTX_sm hT s2 (fun _ => rfl) (fun _ => rfl)
  have sl := segU_len T p.1 j
  have h2' : σ2 52 k = (p.2 : Int) := (s2 52 k rfl).trans h2
  simp only [u_eC, u_eV, u_eF, u_eR, u_eI, u_eL, u_eB, u_eD, u_eM, u_eU, u_aN, u_aC, u_eK, u_eT, u_cLt, u_cLe, u_cGt, u_cGe, u_cEq, u_cNe, u_cAnd, u_cOr, u_cNot, u_zN, u_zS, u_zD, u_zL, u_zI, u_zB, u_zP, u_zF, u_zA, u_zU, u_zC, u_zR, u_zRZ, u_zRC, u_zRV, u_zT, u_zE, u_zK, u_zY, ho_nid, List.getD_cons_zero, List.getD_cons_succ, List.set_cons_zero, List.set_cons_succ, List.cons_append, List.nil_append, List.take_succ_cons, List.take_zero, Int.reduceToNat, Int.toNat_natCast, nN_0, nN_1, nN_2, nN_3, nN_4, nN_5, nN_6, nN_7, nN_8, nN_9, nN_10, nN_11, nN_12, nN_13, nN_14, nN_15, nN_16, nN_17, nN_18, nN_19, nN_20, nN_21, nN_22, nN_23, nN_24, nN_25, nN_26, nN_27, nN_28, nN_29, nN_30, nN_31, nN_32, nN_33, nN_34, nN_35, nN_36, nN_37, nN_38, nN_39, nN_40, nN_41, nN_42, nN_43, nN_44, nN_45, nN_46, nN_47, nN_48, nN_49, nN_50, nN_51, nN_52, nN_53, nN_54, nR_0_0, nR_0_1, nR_0_2, nR_0_3, nR_0_4, nR_0_5, nR_0_6, nR_0_7, nR_0_8, nR_0_9, nR_0_10, nR_1_0, nR_1_1, nR_1_2, nR_1_3, nR_1_4, nR_2_0, nR_2_1, nR_2_2, nR_2_3, nR_2_4, nR_3_0, nR_3_1, nR_4_2, nR_5_2, nR_6_0, nR_6_1, nR_6_2, nR_7_0, nR_30_2, nR_30_3, nR_30_4, nR_30_6, nR_30_7, nR_30_9, nR_30_10, nR_30_11, nR_30_12, nR_30_13, nR_30_14, nR_30_15, nR_30_16, nR_30_18, nR_30_19, nR_30_20, nR_30_21, nR_30_22, nR_30_23, nR_30_24, nR_30_28, nR_30_29, nR_30_31, inc (show p.1 + j < 100000 by omega), o60 (show t < 1000 by omega) (show p.1 + j < 1000 by omega)]
  simp only [mR_30_2, mR_30_3, mR_30_4, mR_30_6, mR_30_7, mR_30_9, mR_30_10, mR_30_11, mR_30_12, mR_30_13, mR_30_14, mR_30_15, mR_30_16, mR_30_18, mR_30_19, mR_30_20, mR_30_21, mR_30_22, mR_30_23, mR_30_24, mR_30_28, mR_30_29, mR_30_31, mR_0_9, mR_7_0, nN_25, nN_26, nN_27, nN_28, nN_29, nN_30, nN_31, nN_32, nN_33, nN_34, nN_35, nN_36, nN_37, nN_38, nN_39, nN_40, nN_41, nN_42, nN_43, nN_44, nN_45, nN_46, nN_47, nN_48, nN_49, nN_50, nN_51, nN_52, nN_53, nN_54, Int.toNat_natCast, h2']
  refine ⟨by omega, fun c2 => ?_, fun c2 => hE2 _ ?_⟩
  · have g9 := hG (p.1 + j) (by omega)
    rw [MTX_at hT2 (by omega)]
    refine ⟨by omega, sp_writesSign g9.1 g9.2 P2 (by rw [List.length_append]; omega) (fun σ3 s3 P3 => ?_)⟩
    refine hK2 _ _ (p.2 - p.1 - (j + 1)) (by omega) ⟨j + 1, by omega, rfl, rfl, sm_tr s2 s3, ?_⟩
    rw [List.append_assoc] at P3
    exact P3
  · have hj9 : j = p.2 - p.1 := by omega
    subst hj9
    exact h σ2 s2 P2
theorem rowU_len {T : Nat → Int} {p : Nat × Nat} {n : Nat} (h : p.1 ≤ p.2 ∧ p.2 ≤ n) (hn : n ≤ 60) : (rowU T p).length ≤ 120 := by
  have := segU_len T p.1 (p.2 - p.1)
  unfold rowU
  omega
theorem sp_writesShort {T : Nat → Int} {c t n : Nat} {st ln lk num : Int} {L : List Int} {l : List (Nat × Nat)} {σ : ho_S} {Q : ho_K} {X : ho_X} (hc16 : c < 16) (ht : t < 48) (hT : MTX σ t n T) (hG : SG T n) (hH : MH σ n l) (h37 : σ 37 c = st) (h38 : σ 38 c = ln) (h36 : σ 36 c = lk) (r1 : 0 ≤ st) (r2 : 0 ≤ ln) (r3 : st + ln ≤ 4800) (r4 : lk ≤ 3) (hL : OT σ L) (hc : L.length + 400 ≤ 6000)
    (h : ∀ σ', sm pOt σ σ' → OT σ' (L ++ capU true num st ln lk T l) → Q 0 σ') : mX7_writesShort [30, (c : Int), (t : Int)] σ Q X := by
  have hn := hT.2.1
  have d1 := dg_len st
  have d2 := dg_len (st + ln)
  have rc : 0 ≤ (c : Int) ∧ (c : Int) < 16 := by omega
  simp only [mX7_writesShort, fX7_writesShort, u_eC, u_eV, u_eF, u_eR, u_eI, u_eL, u_eB, u_eD, u_eM, u_eU, u_aN, u_aC, u_eK, u_eT, u_cLt, u_cLe, u_cGt, u_cGe, u_cEq, u_cNe, u_cAnd, u_cOr, u_cNot, u_zN, u_zS, u_zD, u_zL, u_zI, u_zB, u_zP, u_zF, u_zA, u_zU, u_zC, u_zR, u_zRZ, u_zRC, u_zRV, u_zT, u_zE, u_zK, u_zY, ho_nid, List.getD_cons_zero, List.getD_cons_succ, List.set_cons_zero, List.set_cons_succ, List.cons_append, List.nil_append, List.take_succ_cons, List.take_zero, Int.reduceToNat, Int.toNat_natCast, nN_0, nN_1, nN_2, nN_3, nN_4, nN_5, nN_6, nN_7, nN_8, nN_9, nN_10, nN_11, nN_12, nN_13, nN_14, nN_15, nN_16, nN_17, nN_18, nN_19, nN_20, nN_21, nN_22, nN_23, nN_24, nN_25, nN_26, nN_27, nN_28, nN_29, nN_30, nN_31, nN_32, nN_33, nN_34, nN_35, nN_36, nN_37, nN_38, nN_39, nN_40, nN_41, nN_42, nN_43, nN_44, nN_45, nN_46, nN_47, nN_48, nN_49, nN_50, nN_51, nN_52, nN_53, nN_54, nR_0_0, nR_0_1, nR_0_2, nR_0_3, nR_0_4, nR_0_5, nR_0_6, nR_0_7, nR_0_8, nR_0_9, nR_0_10, nR_1_0, nR_1_1, nR_1_2, nR_1_3, nR_1_4, nR_2_0, nR_2_1, nR_2_2, nR_2_3, nR_2_4, nR_3_0, nR_3_1, nR_4_2, nR_5_2, nR_6_0, nR_6_1, nR_6_2, nR_7_0, nR_30_2, nR_30_3, nR_30_4, nR_30_6, nR_30_7, nR_30_9, nR_30_10, nR_30_11, nR_30_12, nR_30_13, nR_30_14, nR_30_15, nR_30_16, nR_30_18, nR_30_19, nR_30_20, nR_30_21, nR_30_22, nR_30_23, nR_30_24, nR_30_28, nR_30_29, nR_30_31]
  simp only [mR_30_2, mR_30_3, mR_30_4, mR_30_6, mR_30_7, mR_30_9, mR_30_10, mR_30_11, mR_30_12, mR_30_13, mR_30_14, mR_30_15, mR_30_16, mR_30_18, mR_30_19, mR_30_20, mR_30_21, mR_30_22, mR_30_23, mR_30_24, mR_30_28, mR_30_29, mR_30_31, mR_0_9, mR_7_0, nN_25, nN_26, nN_27, nN_28, nN_29, nN_30, nN_31, nN_32, nN_33, nN_34, nN_35, nN_36, nN_37, nN_38, nN_39, nN_40, nN_41, nN_42, nN_43, nN_44, nN_45, nN_46, nN_47, nN_48, nN_49, nN_50, nN_51, nN_52, nN_53, nN_54, Int.toNat_natCast, rc, and_self, true_and]
  refine sp_writes hL (by omega) (fun σ1 s1 P1 => ?_)
  have n1 : (L ++ [123]).length = L.length + 1 := by rw [List.length_append]; rfl
  rw [show σ1 37 c = st from (s1 37 c rfl).trans h37]
  refine sp_writesNumber r1 (by omega) P1 (by omega) (fun σ2 s2 P2 => ?_)
  have n2 : (L ++ [123] ++ dg st).length ≤ L.length + 5 := by rw [List.length_append]; omega
  refine sp_writes P2 (by omega) (fun σ3 s3 P3 => ?_)
  have n3 : (L ++ [123] ++ dg st ++ [125]).length ≤ L.length + 6 := by rw [List.length_append]; exact Nat.add_le_add_right n2 1
  refine sp_writes P3 (by omega) (fun σ4 s4 P4 => ?_)
  have n4 : (L ++ [123] ++ dg st ++ [125] ++ [123]).length ≤ L.length + 7 := by rw [List.length_append]; exact Nat.add_le_add_right n3 1
  have s04 := sm_tr s1 (sm_tr s2 (sm_tr s3 s4))
  rw [show σ4 37 c = st from (s04 37 c rfl).trans h37, show σ4 38 c = ln from (s04 38 c rfl).trans h38, wad (by omega) (by omega)]
  refine sp_writesNumber (by omega) (by omega) P4 (by omega) (fun σ5 s5 P5 => ?_)
  have n5 : (L ++ [123] ++ dg st ++ [125] ++ [123] ++ dg (st + ln)).length ≤ L.length + 11 := by rw [List.length_append]; omega
  refine sp_writes P5 (by omega) (fun σ6 s6 P6 => ?_)
  have n6 : (L ++ [123] ++ dg st ++ [125] ++ [123] ++ dg (st + ln) ++ [125]).length ≤ L.length + 12 := by rw [List.length_append]; exact Nat.add_le_add_right n5 1
  have s06 := sm_tr s04 (sm_tr s5 s6)
  rw [show σ6 36 c = lk from (s06 36 c rfl).trans h36]
  obtain ⟨B, hB⟩ : ∃ B, B = L ++ [123] ++ dg st ++ [125] ++ [123] ++ dg (st + ln) ++ [125] := ⟨_, rfl⟩
  rw [← hB] at P6 n6
  clear P1 P2 P3 P4 P5 n1 n2 n3 n4 n5
  have loop : ∀ (σ7 : ho_S) (A : List Int), sm pOt σ σ7 → OT σ7 (B ++ A) → A = (if lk = 2 then [47] else if lk = 3 then [94] else []) → ∀ Q9 : List Int → ho_S → Prop, (∀ σ8, sm pOt σ σ8 → OT σ8 (B ++ A ++ rwsU T 124 l l.length) → Q9 [30, (c : Int), (t : Int), (l.length : Int)] σ8) → zW (cLt (eV 3) (eF (eV 0) 27)) (zS (zS (zC (cGt (eV 3) (eC 0)) (zK mX7_writes (aC (eV 0) (aC (eC 124) aN))) zN) (zK mX7_writesRow (aC (eV 0) (aC (eV 2) (aC (eV 3) aN))))) (zI 3 1)) [30, (c : Int), (t : Int), 0] σ7 Q9 Q X := by
    intro σ7 A s7 P7 hA Q9 hQ9
    have la : A.length ≤ 1 := by
      rw [hA]
      split
      · simp
      · split <;> simp
    refine zW_rule (fun v σ' m => ∃ k : Nat, (k ≤ l.length) ∧ v = [30, (c : Int), (t : Int), (k : Int)] ∧ m = l.length - k ∧ sm pOt σ σ' ∧ OT σ' (B ++ A ++ rwsU T 124 l k)) _ ⟨0, by omega, rfl, rfl, s7, by rw [show rwsU T 124 l 0 = [] from rfl, List.append_nil]; exact P7⟩ ?_
    rintro v σ' m ⟨k, hk, rfl, rfl, hs, hP⟩ KK KE hKK hKE
    have h27 : σ' 30 27 = (l.length : Int) := (hs 30 27 rfl).trans hH.1
    have hlen := hH.2.2.2.1
    have htot := hH.2.2.2.2
    simp only [u_eC, u_eV, u_eF, u_eR, u_eI, u_eL, u_eB, u_eD, u_eM, u_eU, u_aN, u_aC, u_eK, u_eT, u_cLt, u_cLe, u_cGt, u_cGe, u_cEq, u_cNe, u_cAnd, u_cOr, u_cNot, u_zN, u_zS, u_zD, u_zL, u_zI, u_zB, u_zP, u_zF, u_zA, u_zU, u_zC, u_zR, u_zRZ, u_zRC, u_zRV, u_zT, u_zE, u_zK, u_zY, ho_nid, List.getD_cons_zero, List.getD_cons_succ, List.set_cons_zero, List.set_cons_succ, List.cons_append, List.nil_append, List.take_succ_cons, List.take_zero, Int.reduceToNat, Int.toNat_natCast, nN_0, nN_1, nN_2, nN_3, nN_4, nN_5, nN_6, nN_7, nN_8, nN_9, nN_10, nN_11, nN_12, nN_13, nN_14, nN_15, nN_16, nN_17, nN_18, nN_19, nN_20, nN_21, nN_22, nN_23, nN_24, nN_25, nN_26, nN_27, nN_28, nN_29, nN_30, nN_31, nN_32, nN_33, nN_34, nN_35, nN_36, nN_37, nN_38, nN_39, nN_40, nN_41, nN_42, nN_43, nN_44, nN_45, nN_46, nN_47, nN_48, nN_49, nN_50, nN_51, nN_52, nN_53, nN_54, nR_0_0, nR_0_1, nR_0_2, nR_0_3, nR_0_4, nR_0_5, nR_0_6, nR_0_7, nR_0_8, nR_0_9, nR_0_10, nR_1_0, nR_1_1, nR_1_2, nR_1_3, nR_1_4, nR_2_0, nR_2_1, nR_2_2, nR_2_3, nR_2_4, nR_3_0, nR_3_1, nR_4_2, nR_5_2, nR_6_0, nR_6_1, nR_6_2, nR_7_0, nR_30_2, nR_30_3, nR_30_4, nR_30_6, nR_30_7, nR_30_9, nR_30_10, nR_30_11, nR_30_12, nR_30_13, nR_30_14, nR_30_15, nR_30_16, nR_30_18, nR_30_19, nR_30_20, nR_30_21, nR_30_22, nR_30_23, nR_30_24, nR_30_28, nR_30_29, nR_30_31, h27, inc (show k < 100000 by omega)]
    refine ⟨fun c1 => ?_, fun c1 => hKE _ ?_⟩
    · have hkl : k < l.length := by omega
      have rl := rwsU_len T 124 l k hk
      have tk := tot_take l k
      have hg : l[k]? = some l[k] := List.getElem?_eq_getElem hkl
      obtain ⟨p, hp⟩ : ∃ p, p = l[k] := ⟨_, rfl⟩
      rw [← hp] at hg
      have gd : l.getD k (0, 0) = p := by rw [List.getD_eq_getElem?_getD, hg]; rfl
      have r9 := hH.2.1 k p hg
      have i9 := hH.2.2.1 p (List.mem_of_getElem? hg)
      have inner : ∀ (σ9 : ho_S) (S : List Int), S = (if 0 < k then [124] else []) → sm pOt σ σ9 → OT σ9 (B ++ A ++ rwsU T 124 l k ++ S) → mX7_writesRow [30, (t : Int), (k : Int)] σ9 (fun _ σ => KK [30, (c : Int), (t : Int), ((k + 1 : Nat) : Int)] σ) X := by
        intro σ9 S hS s9 P9
        have lS : S.length ≤ 1 := by rw [hS]; split <;> simp
        refine sp_writesRow ht (by omega) (MTX_sm hT s9 (fun _ => rfl) (fun _ => rfl)) hG ((s9 51 k rfl).trans r9.1) ((s9 52 k rfl).trans r9.2) i9 P9 (by simp only [List.length_append]; omega) (fun σa sa9 Pa => ?_)
        refine hKK _ _ (l.length - (k + 1)) (by omega) ⟨k + 1, by omega, rfl, rfl, sm_tr s9 sa9, ?_⟩
        show OT σa (B ++ A ++ (rwsU T 124 l k ++ ((if 0 < k then [124] else []) ++ rowU T (l.getD k (0, 0)))))
        rw [gd, ← hS]
        simp only [List.append_assoc] at Pa ⊢
        exact Pa
      refine ⟨fun c2 => ?_, fun c2 => inner σ' [] (by rw [if_neg (by omega)]) hs (by rw [List.append_nil]; exact hP)⟩
      refine sp_writes hP (by simp only [List.length_append]; omega) (fun σ9 s9 P9 => inner σ9 [124] (by rw [if_pos (by omega)]) (sm_tr hs s9) P9)
    · have hkl : k = l.length := by omega
      subst hkl
      exact hQ9 σ' hs hP
  have fin : ∀ (A : List Int), A = (if lk = 2 then [47] else if lk = 3 then [94] else []) → ∀ σ8, sm pOt σ σ8 → OT σ8 (B ++ A ++ rwsU T 124 l l.length) → mX7_writes [30, 10] σ8 (fun _ σ => Q 0 σ) X := by
    intro A hA σ8 s8 P8
    have la : A.length ≤ 1 := by
      rw [hA]
      split
      · simp
      · split <;> simp
    have rl := rwsU_len T 124 l l.length (Nat.le_refl _)
    rw [List.take_length] at rl
    have htot := hH.2.2.2.2
    refine sp_writes P8 (by simp only [List.length_append]; omega) (fun σ9 s9 P9 => h σ9 (sm_tr s8 s9) ?_)
    rw [hB, hA] at P9
    simp only [List.append_assoc] at P9
    exact P9
  refine ⟨fun c1 => ⟨fun c2 => ?_, fun c2 => ?_⟩, fun c1 => ?_⟩
  · refine sp_writes P6 (by omega) (fun σ7 s7 P7 => ?_)
    refine loop σ7 [47] (sm_tr s06 s7) P7 (by rw [if_pos c2]) _ (fun σ8 s8 P8 => ?_)
    simp only [u_eC, u_eV, u_eF, u_eR, u_eI, u_eL, u_eB, u_eD, u_eM, u_eU, u_aN, u_aC, u_eK, u_eT, u_cLt, u_cLe, u_cGt, u_cGe, u_cEq, u_cNe, u_cAnd, u_cOr, u_cNot, u_zN, u_zS, u_zD, u_zL, u_zI, u_zB, u_zP, u_zF, u_zA, u_zU, u_zC, u_zR, u_zRZ, u_zRC, u_zRV, u_zT, u_zE, u_zK, u_zY, ho_nid, List.getD_cons_zero, List.getD_cons_succ, List.set_cons_zero, List.set_cons_succ, List.cons_append, List.nil_append, List.take_succ_cons, List.take_zero, Int.reduceToNat, Int.toNat_natCast, nN_0, nN_1, nN_2, nN_3, nN_4, nN_5, nN_6, nN_7, nN_8, nN_9, nN_10, nN_11, nN_12, nN_13, nN_14, nN_15, nN_16, nN_17, nN_18, nN_19, nN_20, nN_21, nN_22, nN_23, nN_24, nN_25, nN_26, nN_27, nN_28, nN_29, nN_30, nN_31, nN_32, nN_33, nN_34, nN_35, nN_36, nN_37, nN_38, nN_39, nN_40, nN_41, nN_42, nN_43, nN_44, nN_45, nN_46, nN_47, nN_48, nN_49, nN_50, nN_51, nN_52, nN_53, nN_54, nR_0_0, nR_0_1, nR_0_2, nR_0_3, nR_0_4, nR_0_5, nR_0_6, nR_0_7, nR_0_8, nR_0_9, nR_0_10, nR_1_0, nR_1_1, nR_1_2, nR_1_3, nR_1_4, nR_2_0, nR_2_1, nR_2_2, nR_2_3, nR_2_4, nR_3_0, nR_3_1, nR_4_2, nR_5_2, nR_6_0, nR_6_1, nR_6_2, nR_7_0, nR_30_2, nR_30_3, nR_30_4, nR_30_6, nR_30_7, nR_30_9, nR_30_10, nR_30_11, nR_30_12, nR_30_13, nR_30_14, nR_30_15, nR_30_16, nR_30_18, nR_30_19, nR_30_20, nR_30_21, nR_30_22, nR_30_23, nR_30_24, nR_30_28, nR_30_29, nR_30_31]
    exact fin [47] (by rw [if_pos c2]) σ8 s8 P8
  · have c3 : lk = 3 := by omega
    refine sp_writes P6 (by omega) (fun σ7 s7 P7 => ?_)
    refine loop σ7 [94] (sm_tr s06 s7) P7 (by rw [if_neg c2, if_pos c3]) _ (fun σ8 s8 P8 => ?_)
    simp only [u_eC, u_eV, u_eF, u_eR, u_eI, u_eL, u_eB, u_eD, u_eM, u_eU, u_aN, u_aC, u_eK, u_eT, u_cLt, u_cLe, u_cGt, u_cGe, u_cEq, u_cNe, u_cAnd, u_cOr, u_cNot, u_zN, u_zS, u_zD, u_zL, u_zI, u_zB, u_zP, u_zF, u_zA, u_zU, u_zC, u_zR, u_zRZ, u_zRC, u_zRV, u_zT, u_zE, u_zK, u_zY, ho_nid, List.getD_cons_zero, List.getD_cons_succ, List.set_cons_zero, List.set_cons_succ, List.cons_append, List.nil_append, List.take_succ_cons, List.take_zero, Int.reduceToNat, Int.toNat_natCast, nN_0, nN_1, nN_2, nN_3, nN_4, nN_5, nN_6, nN_7, nN_8, nN_9, nN_10, nN_11, nN_12, nN_13, nN_14, nN_15, nN_16, nN_17, nN_18, nN_19, nN_20, nN_21, nN_22, nN_23, nN_24, nN_25, nN_26, nN_27, nN_28, nN_29, nN_30, nN_31, nN_32, nN_33, nN_34, nN_35, nN_36, nN_37, nN_38, nN_39, nN_40, nN_41, nN_42, nN_43, nN_44, nN_45, nN_46, nN_47, nN_48, nN_49, nN_50, nN_51, nN_52, nN_53, nN_54, nR_0_0, nR_0_1, nR_0_2, nR_0_3, nR_0_4, nR_0_5, nR_0_6, nR_0_7, nR_0_8, nR_0_9, nR_0_10, nR_1_0, nR_1_1, nR_1_2, nR_1_3, nR_1_4, nR_2_0, nR_2_1, nR_2_2, nR_2_3, nR_2_4, nR_3_0, nR_3_1, nR_4_2, nR_5_2, nR_6_0, nR_6_1, nR_6_2, nR_7_0, nR_30_2, nR_30_3, nR_30_4, nR_30_6, nR_30_7, nR_30_9, nR_30_10, nR_30_11, nR_30_12, nR_30_13, nR_30_14, nR_30_15, nR_30_16, nR_30_18, nR_30_19, nR_30_20, nR_30_21, nR_30_22, nR_30_23, nR_30_24, nR_30_28, nR_30_29, nR_30_31]
    exact fin [94] (by rw [if_neg c2, if_pos c3]) σ8 s8 P8
  · refine loop σ6 [] s06 (by rw [List.append_nil]; exact P6) (by rw [if_neg (by omega), if_neg (by omega)]) _ (fun σ8 s8 P8 => ?_)
    simp only [u_eC, u_eV, u_eF, u_eR, u_eI, u_eL, u_eB, u_eD, u_eM, u_eU, u_aN, u_aC, u_eK, u_eT, u_cLt, u_cLe, u_cGt, u_cGe, u_cEq, u_cNe, u_cAnd, u_cOr, u_cNot, u_zN, u_zS, u_zD, u_zL, u_zI, u_zB, u_zP, u_zF, u_zA, u_zU, u_zC, u_zR, u_zRZ, u_zRC, u_zRV, u_zT, u_zE, u_zK, u_zY, ho_nid, List.getD_cons_zero, List.getD_cons_succ, List.set_cons_zero, List.set_cons_succ, List.cons_append, List.nil_append, List.take_succ_cons, List.take_zero, Int.reduceToNat, Int.toNat_natCast, nN_0, nN_1, nN_2, nN_3, nN_4, nN_5, nN_6, nN_7, nN_8, nN_9, nN_10, nN_11, nN_12, nN_13, nN_14, nN_15, nN_16, nN_17, nN_18, nN_19, nN_20, nN_21, nN_22, nN_23, nN_24, nN_25, nN_26, nN_27, nN_28, nN_29, nN_30, nN_31, nN_32, nN_33, nN_34, nN_35, nN_36, nN_37, nN_38, nN_39, nN_40, nN_41, nN_42, nN_43, nN_44, nN_45, nN_46, nN_47, nN_48, nN_49, nN_50, nN_51, nN_52, nN_53, nN_54, nR_0_0, nR_0_1, nR_0_2, nR_0_3, nR_0_4, nR_0_5, nR_0_6, nR_0_7, nR_0_8, nR_0_9, nR_0_10, nR_1_0, nR_1_1, nR_1_2, nR_1_3, nR_1_4, nR_2_0, nR_2_1, nR_2_2, nR_2_3, nR_2_4, nR_3_0, nR_3_1, nR_4_2, nR_5_2, nR_6_0, nR_6_1, nR_6_2, nR_7_0, nR_30_2, nR_30_3, nR_30_4, nR_30_6, nR_30_7, nR_30_9, nR_30_10, nR_30_11, nR_30_12, nR_30_13, nR_30_14, nR_30_15, nR_30_16, nR_30_18, nR_30_19, nR_30_20, nR_30_21, nR_30_22, nR_30_23, nR_30_24, nR_30_28, nR_30_29, nR_30_31]
    exact fin [] (by rw [if_neg (by omega), if_neg (by omega)]) σ8 s8 P8
def sgA (lk : Int) : List Int := if lk = 2 then [9834, 32] else []
def sgB (lk : Int) : List Int := if lk = 2 then [32, 9834] else []
def mL (T : Nat → Int) (l : List (Nat × Nat)) (lk : Int) (r : Nat) : List Int := if r = 0 then [] else sgA lk ++ (rwsU T 10 l r ++ ((if r = l.length then sgB lk else []) ++ [10]))
theorem mL_len {T : Nat → Int} {l : List (Nat × Nat)} {lk : Int} {r : Nat} (hr : r ≤ l.length) : (mL T l lk r).length ≤ 2 * tot l + 5 := by
  unfold mL
  split
  · exact Nat.zero_le _
  · have rl := rwsU_len T 10 l r hr
    have tk := tot_take l r
    have q1 : (sgA lk).length ≤ 2 := by unfold sgA; split <;> simp
    have q2 : (if r = l.length then sgB lk else []).length ≤ 2 := by
      unfold sgB
      split
      · split <;> simp
      · simp
    simp only [List.length_append, List.length_cons, List.length_nil]
    omega
theorem sp_writesLong {T : Nat → Int} {c t n : Nat} {st ln lk num : Int} {L : List Int} {l : List (Nat × Nat)} {σ : ho_S} {Q : ho_K} {X : ho_X} (hc16 : c < 16) (ht : t < 48) (hT : MTX σ t n T) (hG : SG T n) (hH : MH σ n l) (hpos : 0 < l.length) (h37 : σ 37 c = st) (h38 : σ 38 c = ln) (h36 : σ 36 c = lk) (r1 : 0 ≤ st) (r2 : 0 ≤ ln) (r3 : st + ln ≤ 4800) (r4 : 0 ≤ num) (r5 : num < 100) (hL : OT σ L) (hc : L.length + 400 ≤ 6000)
    (h : ∀ σ', sm pOt σ σ' → OT σ' (L ++ capU false num st ln lk T l) → Q 0 σ') : mX7_writesLong [30, (c : Int), (t : Int), num] σ Q X := by
  have hn := hT.2.1
  have d1 := dg_len2 r5
  have t1 := tmL_len r1 (by omega)
  have t2 := tmL_len (v := st + ln) (by omega) r3
  have rc : 0 ≤ (c : Int) ∧ (c : Int) < 16 := by omega
  have hlen := hH.2.2.2.1
  have htot := hH.2.2.2.2
  simp only [mX7_writesLong, fX7_writesLong, u_eC, u_eV, u_eF, u_eR, u_eI, u_eL, u_eB, u_eD, u_eM, u_eU, u_aN, u_aC, u_eK, u_eT, u_cLt, u_cLe, u_cGt, u_cGe, u_cEq, u_cNe, u_cAnd, u_cOr, u_cNot, u_zN, u_zS, u_zD, u_zL, u_zI, u_zB, u_zP, u_zF, u_zA, u_zU, u_zC, u_zR, u_zRZ, u_zRC, u_zRV, u_zT, u_zE, u_zK, u_zY, ho_nid, List.getD_cons_zero, List.getD_cons_succ, List.set_cons_zero, List.set_cons_succ, List.cons_append, List.nil_append, List.take_succ_cons, List.take_zero, Int.reduceToNat, Int.toNat_natCast, nN_0, nN_1, nN_2, nN_3, nN_4, nN_5, nN_6, nN_7, nN_8, nN_9, nN_10, nN_11, nN_12, nN_13, nN_14, nN_15, nN_16, nN_17, nN_18, nN_19, nN_20, nN_21, nN_22, nN_23, nN_24, nN_25, nN_26, nN_27, nN_28, nN_29, nN_30, nN_31, nN_32, nN_33, nN_34, nN_35, nN_36, nN_37, nN_38, nN_39, nN_40, nN_41, nN_42, nN_43, nN_44, nN_45, nN_46, nN_47, nN_48, nN_49, nN_50, nN_51, nN_52, nN_53, nN_54, nR_0_0, nR_0_1, nR_0_2, nR_0_3, nR_0_4, nR_0_5, nR_0_6, nR_0_7, nR_0_8, nR_0_9, nR_0_10, nR_1_0, nR_1_1, nR_1_2, nR_1_3, nR_1_4, nR_2_0, nR_2_1, nR_2_2, nR_2_3, nR_2_4, nR_3_0, nR_3_1, nR_4_2, nR_5_2, nR_6_0, nR_6_1, nR_6_2, nR_7_0, nR_30_2, nR_30_3, nR_30_4, nR_30_6, nR_30_7, nR_30_9, nR_30_10, nR_30_11, nR_30_12, nR_30_13, nR_30_14, nR_30_15, nR_30_16, nR_30_18, nR_30_19, nR_30_20, nR_30_21, nR_30_22, nR_30_23, nR_30_24, nR_30_28, nR_30_29, nR_30_31]
  simp only [mR_30_2, mR_30_3, mR_30_4, mR_30_6, mR_30_7, mR_30_9, mR_30_10, mR_30_11, mR_30_12, mR_30_13, mR_30_14, mR_30_15, mR_30_16, mR_30_18, mR_30_19, mR_30_20, mR_30_21, mR_30_22, mR_30_23, mR_30_24, mR_30_28, mR_30_29, mR_30_31, mR_0_9, mR_7_0, nN_25, nN_26, nN_27, nN_28, nN_29, nN_30, nN_31, nN_32, nN_33, nN_34, nN_35, nN_36, nN_37, nN_38, nN_39, nN_40, nN_41, nN_42, nN_43, nN_44, nN_45, nN_46, nN_47, nN_48, nN_49, nN_50, nN_51, nN_52, nN_53, nN_54, Int.toNat_natCast, rc, and_self, true_and]
  refine sp_writesNumber r4 (by omega) hL (by omega) (fun σ1 s1 P1 => ?_)
  have n1 : (L ++ dg num).length ≤ L.length + 2 := by rw [List.length_append]; omega
  refine sp_writes P1 (by omega) (fun σ2 s2 P2 => ?_)
  have n2 : (L ++ dg num ++ [10]).length ≤ L.length + 3 := by rw [List.length_append]; exact Nat.add_le_add_right n1 1
  have s02 := sm_tr s1 s2
  rw [show σ2 37 c = st from (s02 37 c rfl).trans h37]
  refine sp_writesTime r1 (by omega) P2 (by omega) (fun σ3 s3 P3 => ?_)
  have n3 : (L ++ dg num ++ [10] ++ tmL st).length ≤ L.length + 10 := by rw [List.length_append, t1]; omega
  refine sp_writes P3 (by omega) (fun σ4 s4 P4 => ?_)
  have n4 : (L ++ dg num ++ [10] ++ tmL st ++ [32]).length ≤ L.length + 11 := by rw [List.length_append]; exact Nat.add_le_add_right n3 1
  refine sp_writes P4 (by omega) (fun σ5 s5 P5 => ?_)
  have n5 : (L ++ dg num ++ [10] ++ tmL st ++ [32] ++ [62]).length ≤ L.length + 12 := by rw [List.length_append]; exact Nat.add_le_add_right n4 1
  refine sp_writes P5 (by omega) (fun σ6 s6 P6 => ?_)
  have n6 : (L ++ dg num ++ [10] ++ tmL st ++ [32] ++ [62] ++ [32]).length ≤ L.length + 13 := by rw [List.length_append]; exact Nat.add_le_add_right n5 1
  have s06 := sm_tr s02 (sm_tr s3 (sm_tr s4 (sm_tr s5 s6)))
  rw [show σ6 37 c = st from (s06 37 c rfl).trans h37, show σ6 38 c = ln from (s06 38 c rfl).trans h38, wad (by omega) (by omega)]
  refine sp_writesTime (by omega) r3 P6 (by omega) (fun σ7 s7 P7 => ?_)
  have n7 : (L ++ dg num ++ [10] ++ tmL st ++ [32] ++ [62] ++ [32] ++ tmL (st + ln)).length ≤ L.length + 20 := by rw [List.length_append, t2]; omega
  refine sp_writes P7 (by omega) (fun σ8 s8 P8 => ?_)
  have n8 : (L ++ dg num ++ [10] ++ tmL st ++ [32] ++ [62] ++ [32] ++ tmL (st + ln) ++ [10]).length ≤ L.length + 21 := by rw [List.length_append]; exact Nat.add_le_add_right n7 1
  have s08 := sm_tr s06 (sm_tr s7 s8)
  obtain ⟨B, hB⟩ : ∃ B, B = L ++ dg num ++ [10] ++ tmL st ++ [32] ++ [62] ++ [32] ++ tmL (st + ln) ++ [10] := ⟨_, rfl⟩
  rw [← hB] at P8 n8
  clear P1 P2 P3 P4 P5 P6 P7 n1 n2 n3 n4 n5 n6 n7
  refine zW_rule (fun v σ' m => ∃ k : Nat, (k ≤ l.length) ∧ v = [30, (c : Int), (t : Int), num, (k : Int)] ∧ m = l.length - k ∧ sm pOt σ σ' ∧ OT σ' (B ++ mL T l lk k)) _ ⟨0, by omega, rfl, rfl, s08, by rw [show mL T l lk 0 = [] from rfl, List.append_nil]; exact P8⟩ ?_
  rintro v σ' m ⟨k, hk, rfl, rfl, hs, hP⟩ KK KE hKK hKE
  have h27 : σ' 30 27 = (l.length : Int) := (hs 30 27 rfl).trans hH.1
  have h36' : σ' 36 c = lk := (hs 36 c rfl).trans h36
  have ml := mL_len (T := T) (lk := lk) hk
  simp only [u_eC, u_eV, u_eF, u_eR, u_eI, u_eL, u_eB, u_eD, u_eM, u_eU, u_aN, u_aC, u_eK, u_eT, u_cLt, u_cLe, u_cGt, u_cGe, u_cEq, u_cNe, u_cAnd, u_cOr, u_cNot, u_zN, u_zS, u_zD, u_zL, u_zI, u_zB, u_zP, u_zF, u_zA, u_zU, u_zC, u_zR, u_zRZ, u_zRC, u_zRV, u_zT, u_zE, u_zK, u_zY, ho_nid, List.getD_cons_zero, List.getD_cons_succ, List.set_cons_zero, List.set_cons_succ, List.cons_append, List.nil_append, List.take_succ_cons, List.take_zero, Int.reduceToNat, Int.toNat_natCast, nN_0, nN_1, nN_2, nN_3, nN_4, nN_5, nN_6, nN_7, nN_8, nN_9, nN_10, nN_11, nN_12, nN_13, nN_14, nN_15, nN_16, nN_17, nN_18, nN_19, nN_20, nN_21, nN_22, nN_23, nN_24, nN_25, nN_26, nN_27, nN_28, nN_29, nN_30, nN_31, nN_32, nN_33, nN_34, nN_35, nN_36, nN_37, nN_38, nN_39, nN_40, nN_41, nN_42, nN_43, nN_44, nN_45, nN_46, nN_47, nN_48, nN_49, nN_50, nN_51, nN_52, nN_53, nN_54, nR_0_0, nR_0_1, nR_0_2, nR_0_3, nR_0_4, nR_0_5, nR_0_6, nR_0_7, nR_0_8, nR_0_9, nR_0_10, nR_1_0, nR_1_1, nR_1_2, nR_1_3, nR_1_4, nR_2_0, nR_2_1, nR_2_2, nR_2_3, nR_2_4, nR_3_0, nR_3_1, nR_4_2, nR_5_2, nR_6_0, nR_6_1, nR_6_2, nR_7_0, nR_30_2, nR_30_3, nR_30_4, nR_30_6, nR_30_7, nR_30_9, nR_30_10, nR_30_11, nR_30_12, nR_30_13, nR_30_14, nR_30_15, nR_30_16, nR_30_18, nR_30_19, nR_30_20, nR_30_21, nR_30_22, nR_30_23, nR_30_24, nR_30_28, nR_30_29, nR_30_31, h27, inc (show k < 100000 by omega)]
  simp only [mR_30_2, mR_30_3, mR_30_4, mR_30_6, mR_30_7, mR_30_9, mR_30_10, mR_30_11, mR_30_12, mR_30_13, mR_30_14, mR_30_15, mR_30_16, mR_30_18, mR_30_19, mR_30_20, mR_30_21, mR_30_22, mR_30_23, mR_30_24, mR_30_28, mR_30_29, mR_30_31, mR_0_9, mR_7_0, nN_25, nN_26, nN_27, nN_28, nN_29, nN_30, nN_31, nN_32, nN_33, nN_34, nN_35, nN_36, nN_37, nN_38, nN_39, nN_40, nN_41, nN_42, nN_43, nN_44, nN_45, nN_46, nN_47, nN_48, nN_49, nN_50, nN_51, nN_52, nN_53, nN_54, Int.toNat_natCast, rc, and_self, true_and, h36']
  refine ⟨fun c1 => ?_, fun c1 => hKE _ ?_⟩
  · have hkl : k < l.length := by omega
    have hg : l[k]? = some l[k] := List.getElem?_eq_getElem hkl
    obtain ⟨p, hp⟩ : ∃ p, p = l[k] := ⟨_, rfl⟩
    rw [← hp] at hg
    have gd : l.getD k (0, 0) = p := by rw [List.getD_eq_getElem?_getD, hg]; rfl
    have r9 := hH.2.1 k p hg
    have i9 := hH.2.2.1 p (List.mem_of_getElem? hg)
    have ru := rowU_len (T := T) i9 hn
    have aft : ∀ (σa : ho_S) (A : List Int), sm pOt σ σa → A.length ≤ 2 * tot l + 7 → OT σa (B ++ A ++ rowU T p) → (A ++ (rowU T p ++ ((if k + 1 = l.length then sgB lk else []) ++ [10])) = mL T l lk (k + 1)) →
        (lk = 2 → ((k : Int) = ho_osub (l.length : Int) 1 → mX7_writes [30, 32] σa (fun _ σ => mX7_writes [30, 9834] σ (fun _ σ => mX7_writes [30, 10] σ (fun _ σ => KK [30, (c : Int), (t : Int), num, ((k + 1 : Nat) : Int)] σ) X) X) X) ∧ ((k : Int) ≠ ho_osub (l.length : Int) 1 → mX7_writes [30, 10] σa (fun _ σ => KK [30, (c : Int), (t : Int), num, ((k + 1 : Nat) : Int)] σ) X)) ∧ (lk ≠ 2 → mX7_writes [30, 10] σa (fun _ σ => KK [30, (c : Int), (t : Int), num, ((k + 1 : Nat) : Int)] σ) X) := by
      intro σa A sa9 lA Pa hA
      have w1 : ((k : Int) = ho_osub (l.length : Int) 1) ↔ k + 1 = l.length := by rw [wsu (by omega) (by omega)]; omega
      rw [w1]
      have w2 : ((k : Int) ≠ ho_osub (l.length : Int) 1) ↔ ¬ (k + 1 = l.length) := by rw [wsu (by omega) (by omega)]; omega
      rw [w2]
      clear w1 w2
      have last : ∀ (σb : ho_S) (S : List Int), S.length ≤ 2 → S = (if k + 1 = l.length then sgB lk else []) → sm pOt σ σb → OT σb (B ++ A ++ rowU T p ++ S) → mX7_writes [30, 10] σb (fun _ σ => KK [30, (c : Int), (t : Int), num, ((k + 1 : Nat) : Int)] σ) X := by
        intro σb S lS hS sb Pb
        refine sp_writes Pb (by simp only [List.length_append]; omega) (fun σc sc Pc => ?_)
        refine hKK _ _ (l.length - (k + 1)) (by omega) ⟨k + 1, by omega, rfl, rfl, sm_tr sb sc, ?_⟩
        rw [← hA, ← hS]
        simp only [List.append_assoc] at Pc ⊢
        exact Pc
      have lk' : lk ≠ 2 → sgB lk = [] := fun z => if_neg z
      have lk2 : lk = 2 → sgB lk = [32, 9834] := fun z => if_pos z
      refine ⟨fun z => ⟨fun y => ?_, fun y => last σa [] (Nat.zero_le _) (by rw [if_neg y]) sa9 (by rw [List.append_nil]; exact Pa)⟩, fun z => last σa [] (Nat.zero_le _) (by rw [lk' z]; split <;> rfl) sa9 (by rw [List.append_nil]; exact Pa)⟩
      refine sp_writes Pa (by simp only [List.length_append]; omega) (fun σb sb Pb => ?_)
      refine sp_writes Pb (by simp only [List.length_append, List.length_cons, List.length_nil]; omega) (fun σc sc Pc => ?_)
      refine last σc [32, 9834] (Nat.le_refl _) (by rw [if_pos y, lk2 z]) (sm_tr sa9 (sm_tr sb sc)) ?_
      rw [List.append_assoc] at Pc
      exact Pc
    have row : ∀ (σ9 : ho_S) (A : List Int), A.length ≤ 2 * tot l + 7 → sm pOt σ σ9 → OT σ9 (B ++ A) → (A ++ (rowU T p ++ ((if k + 1 = l.length then sgB lk else []) ++ [10])) = mL T l lk (k + 1)) → mX7_writesRow [30, (t : Int), (k : Int)] σ9 (fun _ σ => (σ 36 c = 2 → ((k : Int) = ho_osub (σ 30 27) 1 → mX7_writes [30, 32] σ (fun _ σ => mX7_writes [30, 9834] σ (fun _ σ => mX7_writes [30, 10] σ (fun _ σ => KK [30, (c : Int), (t : Int), num, ((k + 1 : Nat) : Int)] σ) X) X) X) ∧ ((k : Int) ≠ ho_osub (σ 30 27) 1 → mX7_writes [30, 10] σ (fun _ σ => KK [30, (c : Int), (t : Int), num, ((k + 1 : Nat) : Int)] σ) X)) ∧ (σ 36 c ≠ 2 → mX7_writes [30, 10] σ (fun _ σ => KK [30, (c : Int), (t : Int), num, ((k + 1 : Nat) : Int)] σ) X)) X := by
      intro σ9 A lA s9 P9 hA
      refine sp_writesRow ht (by omega) (MTX_sm hT s9 (fun _ => rfl) (fun _ => rfl)) hG ((s9 51 k rfl).trans r9.1) ((s9 52 k rfl).trans r9.2) i9 P9 (by simp only [List.length_append]; omega) (fun σa sa9 Pa => ?_)
      have sA := sm_tr s9 sa9
      rw [show σa 36 c = lk from (sA 36 c rfl).trans h36, show σa 30 27 = (l.length : Int) from (sA 30 27 rfl).trans hH.1]
      exact aft σa A sA lA Pa hA
    have nx0 : k = 0 → sgA lk ++ (rowU T p ++ ((if k + 1 = l.length then sgB lk else []) ++ [10])) = mL T l lk (k + 1) := by
      intro z
      subst z
      unfold mL
      rw [if_neg (show ¬ (0 + 1 = 0) by omega)]
      show _ = sgA lk ++ (([] ++ ((if 0 < 0 then [10] else []) ++ rowU T (l.getD 0 (0, 0)))) ++ _)
      rw [gd, if_neg (show ¬ 0 < 0 by omega), List.nil_append, List.nil_append]
    have nxk : 0 < k → mL T l lk k ++ (rowU T p ++ ((if k + 1 = l.length then sgB lk else []) ++ [10])) = mL T l lk (k + 1) := by
      intro z
      unfold mL
      rw [if_neg (show ¬ (k + 1 = 0) by omega), if_neg (show ¬ (k = 0) by omega), if_neg (show ¬ (k = l.length) by omega)]
      show _ = sgA lk ++ ((rwsU T 10 l k ++ ((if 0 < k then [10] else []) ++ rowU T (l.getD k (0, 0)))) ++ _)
      rw [gd, if_pos z]
      simp only [List.append_assoc, List.nil_append]
    have m0 : k = 0 → mL T l lk k = [] := fun z => by rw [z]; rfl
    refine ⟨fun c2 => ⟨fun c3 => ?_, fun c3 => ?_⟩, fun c2 => ?_⟩
    · have hk0 : k = 0 := by omega
      rw [m0 hk0, List.append_nil] at hP
      refine sp_writes hP (by omega) (fun σ9 s9 P9 => ?_)
      refine sp_writes P9 (by simp only [List.length_append, List.length_cons, List.length_nil]; omega) (fun σa sa9 Pa => ?_)
      rw [List.append_assoc] at Pa
      refine row σa [9834, 32] (by simp only [List.length_cons, List.length_nil]; omega) (sm_tr hs (sm_tr s9 sa9)) Pa ?_
      have := nx0 hk0
      unfold sgA at this
      rw [if_pos c2] at this
      exact this
    · exact row σ' (mL T l lk k) (by omega) hs hP (nxk (by omega))
    · by_cases hk0 : k = 0
      · rw [m0 hk0] at hP
        refine row σ' [] (Nat.zero_le _) hs hP ?_
        have := nx0 hk0
        unfold sgA at this
        rw [if_neg c2] at this
        exact this
      · exact row σ' (mL T l lk k) (by omega) hs hP (nxk (by omega))
  · have hkl : k = l.length := by omega
    subst hkl
    simp only [u_eC, u_eV, u_eF, u_eR, u_eI, u_eL, u_eB, u_eD, u_eM, u_eU, u_aN, u_aC, u_eK, u_eT, u_cLt, u_cLe, u_cGt, u_cGe, u_cEq, u_cNe, u_cAnd, u_cOr, u_cNot, u_zN, u_zS, u_zD, u_zL, u_zI, u_zB, u_zP, u_zF, u_zA, u_zU, u_zC, u_zR, u_zRZ, u_zRC, u_zRV, u_zT, u_zE, u_zK, u_zY, ho_nid, List.getD_cons_zero, List.getD_cons_succ, List.set_cons_zero, List.set_cons_succ, List.cons_append, List.nil_append, List.take_succ_cons, List.take_zero, Int.reduceToNat, Int.toNat_natCast, nN_0, nN_1, nN_2, nN_3, nN_4, nN_5, nN_6, nN_7, nN_8, nN_9, nN_10, nN_11, nN_12, nN_13, nN_14, nN_15, nN_16, nN_17, nN_18, nN_19, nN_20, nN_21, nN_22, nN_23, nN_24, nN_25, nN_26, nN_27, nN_28, nN_29, nN_30, nN_31, nN_32, nN_33, nN_34, nN_35, nN_36, nN_37, nN_38, nN_39, nN_40, nN_41, nN_42, nN_43, nN_44, nN_45, nN_46, nN_47, nN_48, nN_49, nN_50, nN_51, nN_52, nN_53, nN_54, nR_0_0, nR_0_1, nR_0_2, nR_0_3, nR_0_4, nR_0_5, nR_0_6, nR_0_7, nR_0_8, nR_0_9, nR_0_10, nR_1_0, nR_1_1, nR_1_2, nR_1_3, nR_1_4, nR_2_0, nR_2_1, nR_2_2, nR_2_3, nR_2_4, nR_3_0, nR_3_1, nR_4_2, nR_5_2, nR_6_0, nR_6_1, nR_6_2, nR_7_0, nR_30_2, nR_30_3, nR_30_4, nR_30_6, nR_30_7, nR_30_9, nR_30_10, nR_30_11, nR_30_12, nR_30_13, nR_30_14, nR_30_15, nR_30_16, nR_30_18, nR_30_19, nR_30_20, nR_30_21, nR_30_22, nR_30_23, nR_30_24, nR_30_28, nR_30_29, nR_30_31]
    refine sp_writes hP (by simp only [List.length_append]; omega) (fun σ9 s9 P9 => h σ9 (sm_tr hs s9) ?_)
    rw [hB] at P9
    unfold mL at P9
    rw [if_neg (show ¬ l.length = 0 by omega), if_pos rfl] at P9
    unfold capU
    rw [if_pos rfl]
    unfold sgA sgB at P9
    simp only [List.append_assoc] at P9 ⊢
    exact P9
