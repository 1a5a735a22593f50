theorem sm_w {p q : Nat → Nat → Bool} {σ τ : ho_S} (h : sm p σ τ) (e : ∀ k j, p k j = true → q k j = true) : sm q σ τ := sm_mo h (fun k j z => by
  cases y : p k j
  · rfl
  · rw [e k j y] at z; cases z)
def SG (T : Nat → Int) (n : Nat) : Prop := ∀ i, i < n → 0 ≤ T i ∧ T i ≤ 131071
theorem tot_take (l : List (Nat × Nat)) (k : Nat) : tot (l.take k) ≤ tot l := by
  have h := tot_app (l.take k) (l.drop k)
  rw [List.take_append_drop] at h
  omega
theorem sp_writeS {x : Int} {L : List Int} {σ : ho_S} {Q : ho_K} {X : ho_X} (hx0 : 0 ≤ x) (hx : x ≤ 131071) (hL : PG σ L) (hc : L.length + 2 ≤ 2400) (h : ∀ σ', sm pPg σ σ' → PG σ' (L ++ un x) → Q 0 σ') : mX3_write [7, x] σ Q X := by
  obtain ⟨y, rfl⟩ : ∃ y : Nat, x = (y : Int) := ⟨x.toNat, by omega⟩
  have := un_len (y : Int)
  exact sp_write (by omega) hL (by rw [List.length_append]; omega) h
theorem sp_first {k : Nat} {σ : ho_S} {Q : ho_K} {X : ho_X} (hk : k < 61) : mX1_first [6, (k : Int)] σ Q X ↔ Q (σ 22 k) σ := by
  simp only [mX1_first, fX1_first, u_eC, u_eV, u_eF, u_eR, u_eI, u_eL, u_eB, u_eD, u_eM, u_eU, u_aN, u_aC, u_eK, u_eT, u_cLt, u_cLe, u_cGt, u_cGe, u_cEq, u_cNe, u_cAnd, u_cOr, u_cNot, u_zN, u_zS, u_zD, u_zL, u_zI, u_zB, u_zP, u_zF, u_zA, u_zU, u_zC, u_zR, u_zRZ, u_zRC, u_zRV, u_zT, u_zE, u_zK, u_zY, ho_nid, List.getD_cons_zero, List.getD_cons_succ, List.set_cons_zero, List.set_cons_succ, List.cons_append, List.nil_append, List.take_succ_cons, List.take_zero, Int.reduceToNat, Int.toNat_natCast, nN_0, nN_1, nN_2, nN_3, nN_4, nN_5, nN_6, nN_7, nN_8, nN_9, nN_10, nN_11, nN_12, nN_13, nN_14, nN_15, nN_16, nN_17, nN_18, nN_19, nN_20, nN_21, nN_22, nN_23, nN_24, nN_25, nN_26, nN_27, nN_28, nN_29, nN_30, nN_31, nN_32, nN_33, nN_34, nN_35, nN_36, nN_37, nN_38, nN_39, nN_40, nN_41, nN_42, nN_43, nN_44, nN_45, nN_46, nN_47, nN_48, nN_49, nN_50, nN_51, nN_52, nN_53, nN_54, nR_0_0, nR_0_1, nR_0_2, nR_0_3, nR_0_4, nR_0_5, nR_0_6, nR_0_7, nR_0_8, nR_0_9, nR_0_10, nR_1_0, nR_1_1, nR_1_2, nR_1_3, nR_1_4, nR_2_0, nR_2_1, nR_2_2, nR_2_3, nR_2_4, nR_3_0, nR_3_1, nR_4_2, nR_5_2, nR_6_0, nR_6_1, nR_6_2, nR_7_0, nR_30_2, nR_30_3, nR_30_4, nR_30_6, nR_30_7, nR_30_9, nR_30_10, nR_30_11, nR_30_12, nR_30_13, nR_30_14, nR_30_15, nR_30_16, nR_30_18, nR_30_19, nR_30_20, nR_30_21, nR_30_22, nR_30_23, nR_30_24, nR_30_28, nR_30_29, nR_30_31, sp_item]
  rw [gi22 hk]
theorem sp_end {k : Nat} {σ : ho_S} {Q : ho_K} {X : ho_X} (hk : k < 61) : mX1_end [6, (k : Int)] σ Q X ↔ Q (σ 23 k) σ := by
  simp only [mX1_end, fX1_end, u_eC, u_eV, u_eF, u_eR, u_eI, u_eL, u_eB, u_eD, u_eM, u_eU, u_aN, u_aC, u_eK, u_eT, u_cLt, u_cLe, u_cGt, u_cGe, u_cEq, u_cNe, u_cAnd, u_cOr, u_cNot, u_zN, u_zS, u_zD, u_zL, u_zI, u_zB, u_zP, u_zF, u_zA, u_zU, u_zC, u_zR, u_zRZ, u_zRC, u_zRV, u_zT, u_zE, u_zK, u_zY, ho_nid, List.getD_cons_zero, List.getD_cons_succ, List.set_cons_zero, List.set_cons_succ, List.cons_append, List.nil_append, List.take_succ_cons, List.take_zero, Int.reduceToNat, Int.toNat_natCast, nN_0, nN_1, nN_2, nN_3, nN_4, nN_5, nN_6, nN_7, nN_8, nN_9, nN_10, nN_11, nN_12, nN_13, nN_14, nN_15, nN_16, nN_17, nN_18, nN_19, nN_20, nN_21, nN_22, nN_23, nN_24, nN_25, nN_26, nN_27, nN_28, nN_29, nN_30, nN_31, nN_32, nN_33, nN_34, nN_35, nN_36, nN_37, nN_38, nN_39, nN_40, nN_41, nN_42, nN_43, nN_44, nN_45, nN_46, nN_47, nN_48, nN_49, nN_50, nN_51, nN_52, nN_53, nN_54, nR_0_0, nR_0_1, nR_0_2, nR_0_3, nR_0_4, nR_0_5, nR_0_6, nR_0_7, nR_0_8, nR_0_9, nR_0_10, nR_1_0, nR_1_1, nR_1_2, nR_1_3, nR_1_4, nR_2_0, nR_2_1, nR_2_2, nR_2_3, nR_2_4, nR_3_0, nR_3_1, nR_4_2, nR_5_2, nR_6_0, nR_6_1, nR_6_2, nR_7_0, nR_30_2, nR_30_3, nR_30_4, nR_30_6, nR_30_7, nR_30_9, nR_30_10, nR_30_11, nR_30_12, nR_30_13, nR_30_14, nR_30_15, nR_30_16, nR_30_18, nR_30_19, nR_30_20, nR_30_21, nR_30_22, nR_30_23, nR_30_24, nR_30_28, nR_30_29, nR_30_31, sp_item]
  rw [gi23 hk]
theorem sp_writeRows {T : Nat → Int} {t n : Nat} {sep : Int} {L : List Int} {l : List (Nat × Nat)} {σ : ho_S} {Q : ho_K} {X : ho_X} (ht : t < 80) (hT : TXT σ t n T) (hG : SG T n) (hs0 : 0 ≤ sep) (hs1 : sep < 65536) (h3 : σ 6 3 = (l.length : Int)) (hR : RW (σ 22) (σ 23) l) (hin : ∀ p ∈ l, p.1 ≤ p.2 ∧ p.2 ≤ n) (hlen : l.length ≤ n + 1) (htot : tot l ≤ n + 1) (hL : PG σ L) (hc : L.length + 124 ≤ 2400)
    (h : ∀ σ', sm pPg σ σ' → PG σ' (L ++ rwsU T sep l l.length) → Q 0 σ') : mX6_writeRows [0, (t : Int), sep] σ Q X := by
  have hn := hT.2.1
  simp only [mX6_writeRows, fX6_writeRows, u_eC, u_eV, u_eF, u_eR, u_eI, u_eL, u_eB, u_eD, u_eM, u_eU, u_aN, u_aC, u_eK, u_eT, u_cLt, u_cLe, u_cGt, u_cGe, u_cEq, u_cNe, u_cAnd, u_cOr, u_cNot, u_zN, u_zS, u_zD, u_zL, u_zI, u_zB, u_zP, u_zF, u_zA, u_zU, u_zC, u_zR, u_zRZ, u_zRC, u_zRV, u_zT, u_zE, u_zK, u_zY, ho_nid, List.getD_cons_zero, List.getD_cons_succ, List.set_cons_zero, List.set_cons_succ, List.cons_append, List.nil_append, List.take_succ_cons, List.take_zero, Int.reduceToNat, Int.toNat_natCast, nN_0, nN_1, nN_2, nN_3, nN_4, nN_5, nN_6, nN_7, nN_8, nN_9, nN_10, nN_11, nN_12, nN_13, nN_14, nN_15, nN_16, nN_17, nN_18, nN_19, nN_20, nN_21, nN_22, nN_23, nN_24, nN_25, nN_26, nN_27, nN_28, nN_29, nN_30, nN_31, nN_32, nN_33, nN_34, nN_35, nN_36, nN_37, nN_38, nN_39, nN_40, nN_41, nN_42, nN_43, nN_44, nN_45, nN_46, nN_47, nN_48, nN_49, nN_50, nN_51, nN_52, nN_53, nN_54, nR_0_0, nR_0_1, nR_0_2, nR_0_3, nR_0_4, nR_0_5, nR_0_6, nR_0_7, nR_0_8, nR_0_9, nR_0_10, nR_1_0, nR_1_1, nR_1_2, nR_1_3, nR_1_4, nR_2_0, nR_2_1, nR_2_2, nR_2_3, nR_2_4, nR_3_0, nR_3_1, nR_4_2, nR_5_2, nR_6_0, nR_6_1, nR_6_2, nR_7_0, nR_30_2, nR_30_3, nR_30_4, nR_30_6, nR_30_7, nR_30_9, nR_30_10, nR_30_11, nR_30_12, nR_30_13, nR_30_14, nR_30_15, nR_30_16, nR_30_18, nR_30_19, nR_30_20, nR_30_21, nR_30_22, nR_30_23, nR_30_24, nR_30_28, nR_30_29, nR_30_31]
  refine zW_rule (fun v σ' m => ∃ k : Nat, (k ≤ l.length) ∧ v = [0, (t : Int), sep, (k : Int)] ∧ m = l.length - k ∧ sm pPg σ σ' ∧ PG σ' (L ++ rwsU T sep l k)) _ ⟨0, by omega, rfl, rfl, sm_rf, by rw [show rwsU T sep l 0 = [] from rfl, List.append_nil]; exact hL⟩ ?_
  rintro v σ' m ⟨k, hk, rfl, rfl, hs, hP⟩ KK KE hKK hKE
  have h3' : σ' 6 3 = (l.length : Int) := (hs 6 3 rfl).trans h3
  simp only [u_eC, u_eV, u_eF, u_eR, u_eI, u_eL, u_eB, u_eD, u_eM, u_eU, u_aN, u_aC, u_eK, u_eT, u_cLt, u_cLe, u_cGt, u_cGe, u_cEq, u_cNe, u_cAnd, u_cOr, u_cNot, u_zN, u_zS, u_zD, u_zL, u_zI, u_zB, u_zP, u_zF, u_zA, u_zU, u_zC, u_zR, u_zRZ, u_zRC, u_zRV, u_zT, u_zE, u_zK, u_zY, ho_nid, List.getD_cons_zero, List.getD_cons_succ, List.set_cons_zero, List.set_cons_succ, List.cons_append, List.nil_append, List.take_succ_cons, List.take_zero, Int.reduceToNat, Int.toNat_natCast, nN_0, nN_1, nN_2, nN_3, nN_4, nN_5, nN_6, nN_7, nN_8, nN_9, nN_10, nN_11, nN_12, nN_13, nN_14, nN_15, nN_16, nN_17, nN_18, nN_19, nN_20, nN_21, nN_22, nN_23, nN_24, nN_25, nN_26, nN_27, nN_28, nN_29, nN_30, nN_31, nN_32, nN_33, nN_34, nN_35, nN_36, nN_37, nN_38, nN_39, nN_40, nN_41, nN_42, nN_43, nN_44, nN_45, nN_46, nN_47, nN_48, nN_49, nN_50, nN_51, nN_52, nN_53, nN_54, nR_0_0, nR_0_1, nR_0_2, nR_0_3, nR_0_4, nR_0_5, nR_0_6, nR_0_7, nR_0_8, nR_0_9, nR_0_10, nR_1_0, nR_1_1, nR_1_2, nR_1_3, nR_1_4, nR_2_0, nR_2_1, nR_2_2, nR_2_3, nR_2_4, nR_3_0, nR_3_1, nR_4_2, nR_5_2, nR_6_0, nR_6_1, nR_6_2, nR_7_0, nR_30_2, nR_30_3, nR_30_4, nR_30_6, nR_30_7, nR_30_9, nR_30_10, nR_30_11, nR_30_12, nR_30_13, nR_30_14, nR_30_15, nR_30_16, nR_30_18, nR_30_19, nR_30_20, nR_30_21, nR_30_22, nR_30_23, nR_30_24, nR_30_28, nR_30_29, nR_30_31, mX1_count, fX1_count, (show ho_R 0 5 = 6 from rfl), h3', inc (show k < 100000 by omega)]
  refine ⟨fun c1 => ?_, fun c1 => hKE _ ?_⟩
  · have hkl : k < l.length := by omega
    have rl := rwsU_len T sep l k hk
    have tk := tot_take l (k + 1)
    have hg : l[k]? = some l[k] := List.getElem?_eq_getElem hkl
    obtain ⟨p, hp⟩ : ∃ p, p = l[k] := ⟨_, rfl⟩
    rw [← hp] at hg
    have e9 : l.take (k + 1) = l.take k ++ [p] := by rw [List.take_succ, hg]; rfl
    rw [e9, tot_app] at tk
    have t9 : tot [p] = p.2 - p.1 + 1 := by show 0 + _ = _; omega
    have gd : l.getD k (0, 0) = p := by rw [List.getD_eq_getElem?_getD, hg]; rfl
    have r9 := hR k p hg
    have i9 := hin p (List.mem_of_getElem? hg)
    have inner : ∀ (σ1 : ho_S) (A : List Int), sm pPg σ σ1 → PG σ1 (L ++ A) → A = rwsU T sep l k ++ (if 0 < k then [sep] else []) → mX1_first [6, (k : Int)] σ1 (fun a σ => zW (cLt (eV 4) (eK mX1_end (aC (eR (eV 0) 5) (aC (eV 3) aN)))) (zS (zK mX3_write (aC (eR (eV 0) 6) (aC (eK mX4_sign (aC (eR (eV 0) 2) (aC (eV 1) (aC (eV 4) aN)))) aN))) (zI 4 1)) [0, (t : Int), sep, (k : Int), a] σ (fun v σ => KK ((List.take 4 v).set 3 (ho_w ((List.take 4 v).getD 3 0 + 1))) σ) Q X) X := by
      intro σ1 A s1 P1 hA
      have la : A.length ≤ 2 * tot (l.take k) + 1 := by
        rw [hA, List.length_append]
        have : (if 0 < k then [sep] else []).length ≤ 1 := by split <;> simp
        omega
      refine (sp_first (by omega)).mpr ?_
      rw [show σ1 22 k = (p.1 : Int) from (congrFun (sm_fn s1 22 (fun _ => rfl)) k).trans r9.1]
      refine zW_rule (fun v σ2 m => ∃ j : Nat, (j ≤ p.2 - p.1) ∧ v = [0, (t : Int), sep, (k : Int), ((p.1 + j : Nat) : Int)] ∧ m = p.2 - p.1 - j ∧ sm pPg σ σ2 ∧ PG σ2 (L ++ (A ++ segU T p.1 j))) _ ⟨0, by omega, rfl, rfl, s1, by rw [show segU T p.1 0 = [] from rfl, List.append_nil]; exact P1⟩ ?_
      rintro v σ2 m ⟨j, hj, rfl, rfl, s2, P2⟩ K2 KE2 hK2 hE2
      have hT2 := TXT_sm hT s2 (fun _ => rfl) (fun _ => rfl)
      have sl := segU_len T p.1 j
      simp only [u_eC, u_eV, u_eF, u_eR, u_eI, u_eL, u_eB, u_eD, u_eM, u_eU, u_aN, u_aC, u_eK, u_eT, u_cLt, u_cLe, u_cGt, u_cGe, u_cEq, u_cNe, u_cAnd, u_cOr, u_cNot, u_zN, u_zS, u_zD, u_zL, u_zI, u_zB, u_zP, u_zF, u_zA, u_zU, u_zC, u_zR, u_zRZ, u_zRC, u_zRV, u_zT, u_zE, u_zK, u_zY, ho_nid, List.getD_cons_zero, List.getD_cons_succ, List.set_cons_zero, List.set_cons_succ, List.cons_append, List.nil_append, List.take_succ_cons, List.take_zero, Int.reduceToNat, Int.toNat_natCast, nN_0, nN_1, nN_2, nN_3, nN_4, nN_5, nN_6, nN_7, nN_8, nN_9, nN_10, nN_11, nN_12, nN_13, nN_14, nN_15, nN_16, nN_17, nN_18, nN_19, nN_20, nN_21, nN_22, nN_23, nN_24, nN_25, nN_26, nN_27, nN_28, nN_29, nN_30, nN_31, nN_32, nN_33, nN_34, nN_35, nN_36, nN_37, nN_38, nN_39, nN_40, nN_41, nN_42, nN_43, nN_44, nN_45, nN_46, nN_47, nN_48, nN_49, nN_50, nN_51, nN_52, nN_53, nN_54, nR_0_0, nR_0_1, nR_0_2, nR_0_3, nR_0_4, nR_0_5, nR_0_6, nR_0_7, nR_0_8, nR_0_9, nR_0_10, nR_1_0, nR_1_1, nR_1_2, nR_1_3, nR_1_4, nR_2_0, nR_2_1, nR_2_2, nR_2_3, nR_2_4, nR_3_0, nR_3_1, nR_4_2, nR_5_2, nR_6_0, nR_6_1, nR_6_2, nR_7_0, nR_30_2, nR_30_3, nR_30_4, nR_30_6, nR_30_7, nR_30_9, nR_30_10, nR_30_11, nR_30_12, nR_30_13, nR_30_14, nR_30_15, nR_30_16, nR_30_18, nR_30_19, nR_30_20, nR_30_21, nR_30_22, nR_30_23, nR_30_24, nR_30_28, nR_30_29, nR_30_31, inc (show p.1 + j < 100000 by omega), sp_signT ht hT2]
      refine (sp_end (by omega)).mpr ?_
      rw [show σ2 23 k = (p.2 : Int) from (congrFun (sm_fn s2 23 (fun _ => rfl)) k).trans r9.2]
      refine ⟨fun c2 => ?_, fun c2 => hE2 _ ?_⟩
      · have g9 := hG (p.1 + j) (by omega)
        refine (sp_signT ht hT2).mpr ?_
        refine sp_writeS g9.1 g9.2 P2 (by rw [List.length_append, List.length_append]; omega) (fun σ3 s3 P3 => ?_)
        refine hK2 _ _ (p.2 - p.1 - (j + 1)) (by omega) ⟨j + 1, by omega, rfl, rfl, sm_tr s2 s3, ?_⟩
        rw [List.append_assoc, List.append_assoc] at P3
        exact P3
      · have hj9 : j = p.2 - p.1 := by omega
        subst hj9
        simp only [List.getD_cons_zero, List.getD_cons_succ, List.set_cons_zero, List.set_cons_succ, List.cons_append, List.nil_append, List.take_succ_cons, List.take_zero, Int.reduceToNat, Int.toNat_natCast, inc (show k < 100000 by omega)]
        refine hKK _ _ (l.length - (k + 1)) (by omega) ⟨k + 1, by omega, rfl, rfl, s2, ?_⟩
        show PG σ2 (L ++ (rwsU T sep l k ++ ((if 0 < k then [sep] else []) ++ rowU T (l.getD k (0, 0)))))
        rw [gd, ← List.append_assoc (rwsU T sep l k), ← hA]
        exact P2
    refine ⟨fun c2 => ?_, fun c2 => ?_⟩
    · refine sp_writeC hs0 hs1 hP (by rw [List.length_append]; omega) (fun σ1 s1 P1 => ?_)
      refine inner σ1 (rwsU T sep l k ++ [sep]) (sm_tr hs s1) (by rw [← List.append_assoc]; exact P1) (by rw [if_pos (show 0 < k by omega)])
    · exact inner σ' (rwsU T sep l k) hs hP (by rw [if_neg (show ¬ 0 < k by omega), List.append_nil])
  · have hkl : k = l.length := by omega
    subst hkl
    exact h σ' hs hP
theorem sp_writeInBraces {v : Int} {L : List Int} {σ : ho_S} {Q : ho_K} {X : ho_X} (h0 : 0 ≤ v) (h9 : v ≤ 9999) (hL : PG σ L) (hc : L.length + 6 ≤ 2400) (h : ∀ σ', sm pPg σ σ' → PG σ' (L ++ ([123] ++ (dg v ++ [125]))) → Q 0 σ') : mX6_writeInBraces [0, v] σ Q X := by
  have d9 := dg_len v
  simp only [mX6_writeInBraces, fX6_writeInBraces, u_eC, u_eV, u_eF, u_eR, u_eI, u_eL, u_eB, u_eD, u_eM, u_eU, u_aN, u_aC, u_eK, u_eT, u_cLt, u_cLe, u_cGt, u_cGe, u_cEq, u_cNe, u_cAnd, u_cOr, u_cNot, u_zN, u_zS, u_zD, u_zL, u_zI, u_zB, u_zP, u_zF, u_zA, u_zU, u_zC, u_zR, u_zRZ, u_zRC, u_zRV, u_zT, u_zE, u_zK, u_zY, ho_nid, List.getD_cons_zero, List.getD_cons_succ, List.set_cons_zero, List.set_cons_succ, List.cons_append, List.nil_append, List.take_succ_cons, List.take_zero, Int.reduceToNat, Int.toNat_natCast, nN_0, nN_1, nN_2, nN_3, nN_4, nN_5, nN_6, nN_7, nN_8, nN_9, nN_10, nN_11, nN_12, nN_13, nN_14, nN_15, nN_16, nN_17, nN_18, nN_19, nN_20, nN_21, nN_22, nN_23, nN_24, nN_25, nN_26, nN_27, nN_28, nN_29, nN_30, nN_31, nN_32, nN_33, nN_34, nN_35, nN_36, nN_37, nN_38, nN_39, nN_40, nN_41, nN_42, nN_43, nN_44, nN_45, nN_46, nN_47, nN_48, nN_49, nN_50, nN_51, nN_52, nN_53, nN_54, nR_0_0, nR_0_1, nR_0_2, nR_0_3, nR_0_4, nR_0_5, nR_0_6, nR_0_7, nR_0_8, nR_0_9, nR_0_10, nR_1_0, nR_1_1, nR_1_2, nR_1_3, nR_1_4, nR_2_0, nR_2_1, nR_2_2, nR_2_3, nR_2_4, nR_3_0, nR_3_1, nR_4_2, nR_5_2, nR_6_0, nR_6_1, nR_6_2, nR_7_0, nR_30_2, nR_30_3, nR_30_4, nR_30_6, nR_30_7, nR_30_9, nR_30_10, nR_30_11, nR_30_12, nR_30_13, nR_30_14, nR_30_15, nR_30_16, nR_30_18, nR_30_19, nR_30_20, nR_30_21, nR_30_22, nR_30_23, nR_30_24, nR_30_28, nR_30_29, nR_30_31]
  refine sp_writeC (by omega) (by omega) hL (by omega) (fun σ1 s1 L1 => ?_)
  have l1 : (L ++ [123]).length = L.length + 1 := by rw [List.length_append]; rfl
  refine sp_writeNumber h0 h9 L1 (by omega) (fun σ2 s2 L2 => ?_)
  have l2 : (L ++ [123] ++ dg v).length ≤ L.length + 5 := by rw [List.length_append, l1]; omega
  refine sp_writeC (by omega) (by omega) L2 (by omega) (fun σ3 s3 L3 => h σ3 (sm_tr s1 (sm_tr s2 s3)) ?_)
  simp only [List.append_assoc] at L3
  exact L3
/-- the layout holds the rows of a text -/
def HR (σ : ho_S) (n : Nat) (l : List (Nat × Nat)) : Prop := σ 6 3 = (l.length : Int) ∧ RW (σ 22) (σ 23) l ∧ (∀ p ∈ l, p.1 ≤ p.2 ∧ p.2 ≤ n) ∧ l.length ≤ n + 1 ∧ tot l ≤ n + 1
theorem HR_sm {σ τ : ho_S} {n : Nat} {l : List (Nat × Nat)} (h : HR σ n l) (s : sm pPg σ τ) : HR τ n l := by
  unfold HR at h ⊢
  rw [s 6 3 rfl, sm_fn s 22 (fun _ => rfl), sm_fn s 23 (fun _ => rfl)]
  exact h
theorem sp_writeBraced {T : Nat → Int} {c t n : Nat} {st ln lk num : Int} {L : List Int} {l : List (Nat × Nat)} {σ : ho_S} {Q : ho_K} {X : ho_X} (hc16 : c < 16) (ht : t < 80) (hT : TXT σ t n T) (hG : SG T n) (hH : HR σ n l) (h13 : σ 13 c = st) (h14 : σ 14 c = ln) (h26 : σ 26 c = lk) (r1 : 0 ≤ st) (r2 : 0 ≤ ln) (r3 : st + ln ≤ 4800) (hL : PG σ L) (hc : L.length + 150 ≤ 2400)
    (h : ∀ σ', sm pPg σ σ' → PG σ' (L ++ capU true num st ln lk T l) → Q 0 σ') : mX6_writeBraced [0, (c : Int), (t : Int)] σ Q X := by
  have hn := hT.2.1
  have d1 := dg_len st
  have d2 := dg_len (st + ln)
  simp only [mX6_writeBraced, fX6_writeBraced, u_eC, u_eV, u_eF, u_eR, u_eI, u_eL, u_eB, u_eD, u_eM, u_eU, u_aN, u_aC, u_eK, u_eT, u_cLt, u_cLe, u_cGt, u_cGe, u_cEq, u_cNe, u_cAnd, u_cOr, u_cNot, u_zN, u_zS, u_zD, u_zL, u_zI, u_zB, u_zP, u_zF, u_zA, u_zU, u_zC, u_zR, u_zRZ, u_zRC, u_zRV, u_zT, u_zE, u_zK, u_zY, ho_nid, List.getD_cons_zero, List.getD_cons_succ, List.set_cons_zero, List.set_cons_succ, List.cons_append, List.nil_append, List.take_succ_cons, List.take_zero, Int.reduceToNat, Int.toNat_natCast, nN_0, nN_1, nN_2, nN_3, nN_4, nN_5, nN_6, nN_7, nN_8, nN_9, nN_10, nN_11, nN_12, nN_13, nN_14, nN_15, nN_16, nN_17, nN_18, nN_19, nN_20, nN_21, nN_22, nN_23, nN_24, nN_25, nN_26, nN_27, nN_28, nN_29, nN_30, nN_31, nN_32, nN_33, nN_34, nN_35, nN_36, nN_37, nN_38, nN_39, nN_40, nN_41, nN_42, nN_43, nN_44, nN_45, nN_46, nN_47, nN_48, nN_49, nN_50, nN_51, nN_52, nN_53, nN_54, nR_0_0, nR_0_1, nR_0_2, nR_0_3, nR_0_4, nR_0_5, nR_0_6, nR_0_7, nR_0_8, nR_0_9, nR_0_10, nR_1_0, nR_1_1, nR_1_2, nR_1_3, nR_1_4, nR_2_0, nR_2_1, nR_2_2, nR_2_3, nR_2_4, nR_3_0, nR_3_1, nR_4_2, nR_5_2, nR_6_0, nR_6_1, nR_6_2, nR_7_0, nR_30_2, nR_30_3, nR_30_4, nR_30_6, nR_30_7, nR_30_9, nR_30_10, nR_30_11, nR_30_12, nR_30_13, nR_30_14, nR_30_15, nR_30_16, nR_30_18, nR_30_19, nR_30_20, nR_30_21, nR_30_22, nR_30_23, nR_30_24, nR_30_28, nR_30_29, nR_30_31, sp_item, sp_tstart]
  rw [gi26 hc16, gi13 hc16, h26, h13]
  refine sp_writeInBraces r1 (by omega) hL (by omega) (fun σ1 s1 L1 => ?_)
  have l1 : (L ++ ([123] ++ (dg st ++ [125]))).length ≤ L.length + 6 := by simp only [List.length_append, List.length_cons, List.length_nil]; omega
  refine sp_tend.mpr ?_
  rw [gi13 hc16, gi14 hc16, show σ1 13 c = st from (s1 13 c rfl).trans h13, show σ1 14 c = ln from (s1 14 c rfl).trans h14, wE (x := st + ln) (by omega) (by omega)]
  refine sp_writeInBraces (by omega) (by omega) L1 (by omega) (fun σ2 s2 L2 => ?_)
  have l2 : (L ++ ([123] ++ (dg st ++ [125])) ++ ([123] ++ (dg (st + ln) ++ [125]))).length ≤ L.length + 12 := by rw [List.length_append]; simp only [List.length_append, List.length_cons, List.length_nil] at l1 ⊢; omega
  obtain ⟨L3, hL3⟩ : ∃ L3, L3 = L ++ ([123] ++ (dg st ++ [125])) ++ ([123] ++ (dg (st + ln) ++ [125])) := ⟨_, rfl⟩
  rw [← hL3] at L2 l2
  have s12 := sm_tr s1 s2
  have tail : ∀ (σ3 : ho_S) (A : List Int), sm pPg σ σ3 → PG σ3 (L3 ++ A) → A = (if lk = 2 then [47] else if lk = 3 then [94] else []) → mX6_writeRows [0, (t : Int), 124] σ3 (fun _ σ => mX3_write [7, 10] σ (fun _ σ => Q 0 σ) X) X := by
    intro σ3 A s3 P3 hA
    have la : A.length ≤ 1 := by
      rw [hA]
      split
      · simp
      · split <;> simp
    have H3 := HR_sm hH s3
    have rl := rwsU_len T 124 l l.length (Nat.le_refl _)
    rw [List.take_length] at rl
    have tl := hH.2.2.2.2
    refine sp_writeRows ht (TXT_sm hT s3 (fun _ => rfl) (fun _ => rfl)) hG (by omega) (by omega) H3.1 H3.2.1 H3.2.2.1 H3.2.2.2.1 H3.2.2.2.2 P3 (by rw [List.length_append]; omega) (fun σ4 s4 P4 => ?_)
    refine sp_writeC (by omega) (by omega) P4 (by rw [List.length_append, List.length_append]; omega) (fun σ5 s5 P5 => h σ5 (sm_tr s3 (sm_tr s4 s5)) ?_)
    rw [hL3, hA] at P5
    simp only [List.append_assoc] at P5
    exact P5
  refine ⟨fun c1 => ?_, fun c1 => ⟨fun c2 => ?_, fun c2 => ?_⟩⟩
  · refine sp_writeC (by omega) (by omega) L2 (by omega) (fun σ3 s3 P3 => ⟨fun c2 => by omega, fun _ => tail σ3 [47] (sm_tr s12 s3) P3 (by rw [if_pos c1])⟩)
  · refine sp_writeC (by omega) (by omega) L2 (by omega) (fun σ3 s3 P3 => tail σ3 [94] (sm_tr s12 s3) P3 (by rw [if_neg c1, if_pos c2]))
  · exact tail σ2 [] s12 (by rw [List.append_nil]; exact L2) (by rw [if_neg c1, if_neg c2])
theorem sp_writeNumbered {T : Nat → Int} {c t n : Nat} {st ln lk num : Int} {L : List Int} {l : List (Nat × Nat)} {σ : ho_S} {Q : ho_K} {X : ho_X} (hc16 : c < 16) (ht : t < 80) (hT : TXT σ t n T) (hG : SG T n) (hH : HR σ n l) (h13 : σ 13 c = st) (h14 : σ 14 c = ln) (h26 : σ 26 c = lk) (r1 : 0 ≤ st) (r2 : 0 ≤ ln) (r3 : st + ln ≤ 4800) (r4 : 0 ≤ num) (r5 : num < 100) (hL : PG σ L) (hc : L.length + 150 ≤ 2400)
    (h : ∀ σ', sm pPg σ σ' → PG σ' (L ++ capU false num st ln lk T l) → Q 0 σ') : mX6_writeNumbered [0, (c : Int), (t : Int), num] σ Q X := by
  have hn := hT.2.1
  have d1 := dg_len2 r5
  have t1 := tmL_len r1 (by omega)
  have t2 := tmL_len (v := st + ln) (by omega) r3
  have rl := rwsU_len T 10 l l.length (Nat.le_refl _)
  rw [List.take_length] at rl
  have tl := hH.2.2.2.2
  have main : ∀ b : Int, ((b = 1 ∧ lk = 2) ∨ (b = 0 ∧ lk ≠ 2)) → (zS (zK mX3_writeNumber (aC (eR (eV 0) 6) (aC (eV 3) aN))) (zS (zK mX3_write (aC (eR (eV 0) 6) (aC (eC 10) aN))) (zS (zK mX6_writeTime (aC (eV 0) (aC (eK mX5_start (aC (eR (eV 0) 1) (aC (eV 1) aN))) aN))) (zS (zK mX3_write (aC (eR (eV 0) 6) (aC (eC 32) aN))) (zS (zK mX3_write (aC (eR (eV 0) 6) (aC (eC 62) aN))) (zS (zK mX3_write (aC (eR (eV 0) 6) (aC (eC 32) aN))) (zS (zK mX6_writeTime (aC (eV 0) (aC (eK mX5_end (aC (eR (eV 0) 1) (aC (eV 1) aN))) aN))) (zS (zK mX3_write (aC (eR (eV 0) 6) (aC (eC 10) aN))) (zS (zC (cNe (eV 4) (eC 0)) (zS (zK mX3_write (aC (eR (eV 0) 6) (aC (eC 9834) aN))) (zK mX3_write (aC (eR (eV 0) 6) (aC (eC 32) aN)))) zN) (zS (zK mX6_writeRows (aC (eV 0) (aC (eV 2) (aC (eC 10) aN)))) (zS (zC (cNe (eV 4) (eC 0)) (zS (zK mX3_write (aC (eR (eV 0) 6) (aC (eC 32) aN))) (zK mX3_write (aC (eR (eV 0) 6) (aC (eC 9834) aN)))) zN) (zS (zK mX3_write (aC (eR (eV 0) 6) (aC (eC 10) aN))) (zS (zK mX3_write (aC (eR (eV 0) 6) (aC (eC 10) aN))) zRV))))))))))))) [0, (c : Int), (t : Int), num, b] σ (fun _ _ => False) Q X := by
    intro b hb
    simp only [u_eC, u_eV, u_eF, u_eR, u_eI, u_eL, u_eB, u_eD, u_eM, u_eU, u_aN, u_aC, u_eK, u_eT, u_cLt, u_cLe, u_cGt, u_cGe, u_cEq, u_cNe, u_cAnd, u_cOr, u_cNot, u_zN, u_zS, u_zD, u_zL, u_zI, u_zB, u_zP, u_zF, u_zA, u_zU, u_zC, u_zR, u_zRZ, u_zRC, u_zRV, u_zT, u_zE, u_zK, u_zY, ho_nid, List.getD_cons_zero, List.getD_cons_succ, List.set_cons_zero, List.set_cons_succ, List.cons_append, List.nil_append, List.take_succ_cons, List.take_zero, Int.reduceToNat, Int.toNat_natCast, nN_0, nN_1, nN_2, nN_3, nN_4, nN_5, nN_6, nN_7, nN_8, nN_9, nN_10, nN_11, nN_12, nN_13, nN_14, nN_15, nN_16, nN_17, nN_18, nN_19, nN_20, nN_21, nN_22, nN_23, nN_24, nN_25, nN_26, nN_27, nN_28, nN_29, nN_30, nN_31, nN_32, nN_33, nN_34, nN_35, nN_36, nN_37, nN_38, nN_39, nN_40, nN_41, nN_42, nN_43, nN_44, nN_45, nN_46, nN_47, nN_48, nN_49, nN_50, nN_51, nN_52, nN_53, nN_54, nR_0_0, nR_0_1, nR_0_2, nR_0_3, nR_0_4, nR_0_5, nR_0_6, nR_0_7, nR_0_8, nR_0_9, nR_0_10, nR_1_0, nR_1_1, nR_1_2, nR_1_3, nR_1_4, nR_2_0, nR_2_1, nR_2_2, nR_2_3, nR_2_4, nR_3_0, nR_3_1, nR_4_2, nR_5_2, nR_6_0, nR_6_1, nR_6_2, nR_7_0, nR_30_2, nR_30_3, nR_30_4, nR_30_6, nR_30_7, nR_30_9, nR_30_10, nR_30_11, nR_30_12, nR_30_13, nR_30_14, nR_30_15, nR_30_16, nR_30_18, nR_30_19, nR_30_20, nR_30_21, nR_30_22, nR_30_23, nR_30_24, nR_30_28, nR_30_29, nR_30_31]
    refine sp_writeNumber r4 (by omega) hL (by omega) (fun σ1 s1 P1 => ?_)
    have n1 : (L ++ dg num).length ≤ L.length + 2 := by rw [List.length_append]; omega
    refine sp_writeC (by omega) (by omega) P1 (by omega) (fun σ2 s2 P2 => ?_)
    have n2 : (L ++ dg num ++ [10]).length ≤ L.length + 3 := by rw [List.length_append]; exact Nat.add_le_add_right n1 1
    refine sp_tstart.mpr ?_
    have s02 := sm_tr s1 s2
    rw [gi13 hc16, show σ2 13 c = st from (s02 13 c rfl).trans h13]
    refine sp_writeTime r1 (by omega) P2 (by omega) (fun σ3 s3 P3 => ?_)
    have n3 : (L ++ dg num ++ [10] ++ tmL st).length ≤ L.length + 10 := by rw [List.length_append, t1]; omega
    refine sp_writeC (by omega) (by omega) P3 (by omega) (fun σ4 s4 P4 => ?_)
    have n4 : (L ++ dg num ++ [10] ++ tmL st ++ [32]).length ≤ L.length + 11 := by rw [List.length_append]; exact Nat.add_le_add_right n3 1
    refine sp_writeC (by omega) (by omega) P4 (by omega) (fun σ5 s5 P5 => ?_)
    have n5 : (L ++ dg num ++ [10] ++ tmL st ++ [32] ++ [62]).length ≤ L.length + 12 := by rw [List.length_append]; exact Nat.add_le_add_right n4 1
    refine sp_writeC (by omega) (by omega) P5 (by omega) (fun σ6 s6 P6 => ?_)
    have n6 : (L ++ dg num ++ [10] ++ tmL st ++ [32] ++ [62] ++ [32]).length ≤ L.length + 13 := by rw [List.length_append]; exact Nat.add_le_add_right n5 1
    refine sp_tend.mpr ?_
    have s06 := sm_tr s02 (sm_tr s3 (sm_tr s4 (sm_tr s5 s6)))
    rw [gi13 hc16, gi14 hc16, show σ6 13 c = st from (s06 13 c rfl).trans h13, show σ6 14 c = ln from (s06 14 c rfl).trans h14, wE (x := st + ln) (by omega) (by omega)]
    refine sp_writeTime (by omega) r3 P6 (by omega) (fun σ7 s7 P7 => ?_)
    have n7 : (L ++ dg num ++ [10] ++ tmL st ++ [32] ++ [62] ++ [32] ++ tmL (st + ln)).length ≤ L.length + 20 := by rw [List.length_append, t2]; omega
    refine sp_writeC (by omega) (by omega) P7 (by omega) (fun σ8 s8 P8 => ?_)
    have n8 : (L ++ dg num ++ [10] ++ tmL st ++ [32] ++ [62] ++ [32] ++ tmL (st + ln) ++ [10]).length ≤ L.length + 21 := by rw [List.length_append]; exact Nat.add_le_add_right n7 1
    have s08 := sm_tr s06 (sm_tr s7 s8)
    obtain ⟨B, hB⟩ : ∃ B, B = L ++ dg num ++ [10] ++ tmL st ++ [32] ++ [62] ++ [32] ++ tmL (st + ln) ++ [10] := ⟨_, rfl⟩
    rw [← hB] at P8 n8
    clear P1 P2 P3 P4 P5 P6 P7 n1 n2 n3 n4 n5 n6 n7
    have fin : ∀ σ9 : ho_S, sm pPg σ σ9 → PG σ9 (B ++ ((if lk = 2 then [9834, 32] else []) ++ (rwsU T 10 l l.length ++ (if lk = 2 then [32, 9834] else [])))) → mX3_write [7, 10] σ9 (fun _ σ => mX3_write [7, 10] σ (fun _ σ => Q 0 σ) X) X := by
      intro σ9 s9 P9
      have q1 : (if lk = 2 then [9834, 32] else ([] : List Int)).length ≤ 2 := by split <;> simp
      have q2 : (if lk = 2 then [32, 9834] else ([] : List Int)).length ≤ 2 := by split <;> simp
      have n9 : (B ++ ((if lk = 2 then [9834, 32] else []) ++ (rwsU T 10 l l.length ++ (if lk = 2 then [32, 9834] else [])))).length ≤ B.length + 126 := by simp only [List.length_append]; omega
      refine sp_writeC (by omega) (by omega) P9 (by omega) (fun σa sa9 Pa => ?_)
      refine sp_writeC (by omega) (by omega) Pa (by rw [List.length_append]; simp only [List.length_cons, List.length_nil]; omega) (fun σb sb Pb => h σb (sm_tr s9 (sm_tr sa9 sb)) ?_)
      rw [hB] at Pb
      simp only [List.append_assoc] at Pb
      exact Pb
    have rows : ∀ (σ9 : ho_S) (A : List Int), A.length ≤ 2 → sm pPg σ σ9 → PG σ9 (B ++ A) → ∀ Q' : ho_K, (∀ σa, sm pPg σ σa → PG σa (B ++ A ++ rwsU T 10 l l.length) → Q' 0 σa) → mX6_writeRows [0, (t : Int), 10] σ9 Q' X := by
      intro σ9 A ha s9 P9 Q' hQ'
      have H9 := HR_sm hH s9
      exact sp_writeRows ht (TXT_sm hT s9 (fun _ => rfl) (fun _ => rfl)) hG (by omega) (by omega) H9.1 H9.2.1 H9.2.2.1 H9.2.2.2.1 H9.2.2.2.2 P9 (by rw [List.length_append]; omega) (fun σa sa9 Pa => hQ' σa (sm_tr s9 sa9) Pa)
    refine ⟨fun c1 => ?_, fun c1 => ?_⟩
    · have lk2 : lk = 2 := by omega
      refine sp_writeC (by omega) (by omega) P8 (by omega) (fun σ9 s9 P9 => ?_)
      refine sp_writeC (by omega) (by omega) P9 (by rw [List.length_append]; simp only [List.length_cons, List.length_nil]; omega) (fun σa sa9 Pa => ?_)
      rw [List.append_assoc] at Pa
      refine rows σa [9834, 32] (Nat.le_refl _) (sm_tr s08 (sm_tr s9 sa9)) Pa _ (fun σb sb Pb => ⟨fun _ => ?_, fun z => absurd z c1⟩)
      refine sp_writeC (by omega) (by omega) Pb (by rw [List.length_append, List.length_append]; simp only [List.length_cons, List.length_nil]; omega) (fun σc sc Pc => ?_)
      refine sp_writeC (by omega) (by omega) Pc (by rw [List.length_append, List.length_append, List.length_append]; simp only [List.length_cons, List.length_nil]; omega) (fun σd sd Pd => ?_)
      refine fin σd (sm_tr sb (sm_tr sc sd)) ?_
      rw [if_pos lk2, if_pos lk2]
      simp only [List.append_assoc] at Pd
      exact Pd
    · have lk2 : lk ≠ 2 := by omega
      refine rows σ8 [] (Nat.zero_le _) s08 (by rw [List.append_nil]; exact P8) _ (fun σb sb Pb => ⟨fun z => absurd c1 z, fun _ => fin σb sb ?_⟩)
      rw [if_neg lk2, if_neg lk2]
      rw [List.append_nil] at Pb
      rw [List.append_nil]
      exact Pb
  unfold mX6_writeNumbered fX6_writeNumbered
  refine r_D (if lk = 2 then 1 else 0) (fun K' hK' => ?_) ?_
  · simp only [u_eC, u_eV, u_eF, u_eR, u_eI, u_eL, u_eB, u_eD, u_eM, u_eU, u_aN, u_aC, u_eK, u_eT, u_cLt, u_cLe, u_cGt, u_cGe, u_cEq, u_cNe, u_cAnd, u_cOr, u_cNot, u_zN, u_zS, u_zD, u_zL, u_zI, u_zB, u_zP, u_zF, u_zA, u_zU, u_zC, u_zR, u_zRZ, u_zRC, u_zRV, u_zT, u_zE, u_zK, u_zY, ho_nid, List.getD_cons_zero, List.getD_cons_succ, List.set_cons_zero, List.set_cons_succ, List.cons_append, List.nil_append, List.take_succ_cons, List.take_zero, Int.reduceToNat, Int.toNat_natCast, nN_0, nN_1, nN_2, nN_3, nN_4, nN_5, nN_6, nN_7, nN_8, nN_9, nN_10, nN_11, nN_12, nN_13, nN_14, nN_15, nN_16, nN_17, nN_18, nN_19, nN_20, nN_21, nN_22, nN_23, nN_24, nN_25, nN_26, nN_27, nN_28, nN_29, nN_30, nN_31, nN_32, nN_33, nN_34, nN_35, nN_36, nN_37, nN_38, nN_39, nN_40, nN_41, nN_42, nN_43, nN_44, nN_45, nN_46, nN_47, nN_48, nN_49, nN_50, nN_51, nN_52, nN_53, nN_54, nR_0_0, nR_0_1, nR_0_2, nR_0_3, nR_0_4, nR_0_5, nR_0_6, nR_0_7, nR_0_8, nR_0_9, nR_0_10, nR_1_0, nR_1_1, nR_1_2, nR_1_3, nR_1_4, nR_2_0, nR_2_1, nR_2_2, nR_2_3, nR_2_4, nR_3_0, nR_3_1, nR_4_2, nR_5_2, nR_6_0, nR_6_1, nR_6_2, nR_7_0, nR_30_2, nR_30_3, nR_30_4, nR_30_6, nR_30_7, nR_30_9, nR_30_10, nR_30_11, nR_30_12, nR_30_13, nR_30_14, nR_30_15, nR_30_16, nR_30_18, nR_30_19, nR_30_20, nR_30_21, nR_30_22, nR_30_23, nR_30_24, nR_30_28, nR_30_29, nR_30_31, sp_item]
    rw [gi26 hc16, h26]
    exact ⟨fun z => by rw [if_pos z] at hK'; exact hK', fun z => by rw [if_neg z] at hK'; exact hK'⟩
  · refine main _ ?_
    by_cases z : lk = 2
    · rw [if_pos z]; exact Or.inl ⟨rfl, z⟩
    · rw [if_neg z]; exact Or.inr ⟨rfl, z⟩
