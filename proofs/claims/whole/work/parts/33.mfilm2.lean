def bitsOK (f : Nat → Int) : Prop := ∀ k : Nat, k < 4800 → ∃ x : Nat, f k = x ∧ x < 65536
theorem sp_settles {n m : Nat} {σ : ho_S} {Q : ho_K} {X : ho_X} (h0 : 0 ≤ σ 30 1) (h1 : σ 30 1 ≤ 12) (hn : σ 30 5 = n) (h3 : n ≤ 4800) (hm : σ 30 8 = m) (hm1 : m ≤ 16) (hf : ∀ i : Nat, i < n → 0 ≤ σ 34 i ∧ σ 34 i < 4800) (hl : bitsOK (σ 33))
    (h : ∀ a b : Nat → Int, (∀ c, c < m → LR (fun i => bit (σ 33 (σ 34 i).toNat) c = true) n (a c) (b c)) → (∀ c, m ≤ c → a c = σ 37 c ∧ b c = σ 38 c) → Q 0 (sa (sa (sa σ 32 (rnum (σ 34) (fun k => if (k : Int) < 400 * σ 30 1 then -1 else σ 32 k) 0 n)) 37 a) 38 b)) : mX7_settles [30] σ Q X := by
  simp only [mX7_settles, fX7_settles, u_eC, u_eV, u_eF, u_eR, u_eI, u_eL, u_eB, u_eD, u_eM, u_eU, u_aN, u_aC, u_eK, u_eT, u_cLt, u_cLe, u_cGt, u_cGe, u_cEq, u_cNe, u_cAnd, u_cOr, u_cNot, u_zN, u_zS, u_zD, u_zL, u_zI, u_zB, u_zP, u_zF, u_zA, u_zU, u_zC, u_zR, u_zRZ, u_zRC, u_zRV, u_zT, u_zE, u_zK, u_zY, ho_nid, List.getD_cons_zero, List.getD_cons_succ, List.set_cons_zero, List.set_cons_succ, List.cons_append, List.nil_append, List.take_succ_cons, List.take_zero, Int.reduceToNat, Int.toNat_natCast, nN_0, nN_1, nN_2, nN_3, nN_4, nN_5, nN_6, nN_7, nN_8, nN_9, nN_10, nN_11, nN_12, nN_13, nN_14, nN_15, nN_16, nN_17, nN_18, nN_19, nN_20, nN_21, nN_22, nN_23, nN_24, nN_25, nN_26, nN_27, nN_28, nN_29, nN_30, nN_31, nN_32, nN_33, nN_34, nN_35, nN_36, nN_37, nN_38, nN_39, nN_40, nN_41, nN_42, nN_43, nN_44, nN_45, nN_46, nN_47, nN_48, nN_49, nN_50, nN_51, nN_52, nN_53, nN_54, nR_0_0, nR_0_1, nR_0_2, nR_0_3, nR_0_4, nR_0_5, nR_0_6, nR_0_7, nR_0_8, nR_0_9, nR_0_10, nR_1_0, nR_1_1, nR_1_2, nR_1_3, nR_1_4, nR_2_0, nR_2_1, nR_2_2, nR_2_3, nR_2_4, nR_3_0, nR_3_1, nR_4_2, nR_5_2, nR_6_0, nR_6_1, nR_6_2, nR_7_0, nR_30_2, nR_30_3, nR_30_4, nR_30_6, nR_30_7, nR_30_9, nR_30_10, nR_30_11, nR_30_12, nR_30_13, nR_30_14, nR_30_15, nR_30_16, nR_30_18, nR_30_19, nR_30_20, nR_30_21, nR_30_22, nR_30_23, nR_30_24, nR_30_28, nR_30_29, nR_30_31]
  refine sp_findsPlaces h0 h1 (by omega) (by omega) (fun i hi => hf i (by omega)) ?_
  obtain ⟨P, hP⟩ : ∃ P : Nat → Int, P = rnum (σ 34) (fun k => if (k : Int) < 400 * σ 30 1 then -1 else σ 32 k) 0 n := ⟨_, rfl⟩
  rw [show (σ 30 5).toNat = n by omega, ← hP]
  rw [← hP] at h
  clear hP
  refine zW_rule (fun v σ' k => ∃ (c : Nat) (a b : Nat → Int), c ≤ m ∧ v = [30, (c : Int)] ∧ k = m - c ∧ σ' = sa (sa (sa σ 32 P) 37 a) 38 b ∧ (∀ d, d < c → LR (fun i => bit (σ 33 (σ 34 i).toNat) d = true) n (a d) (b d)) ∧ (∀ d, c ≤ d → a d = σ 37 d ∧ b d = σ 38 d)) _ ⟨0, σ 37, σ 38, by omega, rfl, rfl, ?_, fun d hd => by omega, fun d _ => ⟨rfl, rfl⟩⟩ ?_
  · funext q j; unfold sa; grind
  rintro v σ' k ⟨c, a, b, hc, rfl, rfl, rfl, h5, h6⟩ KK KE hKK hKE
  simp only [u_eC, u_eV, u_eF, u_eR, u_eI, u_eL, u_eB, u_eD, u_eM, u_eU, u_aN, u_aC, u_eK, u_eT, u_cLt, u_cLe, u_cGt, u_cGe, u_cEq, u_cNe, u_cAnd, u_cOr, u_cNot, u_zN, u_zS, u_zD, u_zL, u_zI, u_zB, u_zP, u_zF, u_zA, u_zU, u_zC, u_zR, u_zRZ, u_zRC, u_zRV, u_zT, u_zE, u_zK, u_zY, ho_nid, List.getD_cons_zero, List.getD_cons_succ, List.set_cons_zero, List.set_cons_succ, List.cons_append, List.nil_append, List.take_succ_cons, List.take_zero, Int.reduceToNat, Int.toNat_natCast, nN_0, nN_1, nN_2, nN_3, nN_4, nN_5, nN_6, nN_7, nN_8, nN_9, nN_10, nN_11, nN_12, nN_13, nN_14, nN_15, nN_16, nN_17, nN_18, nN_19, nN_20, nN_21, nN_22, nN_23, nN_24, nN_25, nN_26, nN_27, nN_28, nN_29, nN_30, nN_31, nN_32, nN_33, nN_34, nN_35, nN_36, nN_37, nN_38, nN_39, nN_40, nN_41, nN_42, nN_43, nN_44, nN_45, nN_46, nN_47, nN_48, nN_49, nN_50, nN_51, nN_52, nN_53, nN_54, nR_0_0, nR_0_1, nR_0_2, nR_0_3, nR_0_4, nR_0_5, nR_0_6, nR_0_7, nR_0_8, nR_0_9, nR_0_10, nR_1_0, nR_1_1, nR_1_2, nR_1_3, nR_1_4, nR_2_0, nR_2_1, nR_2_2, nR_2_3, nR_2_4, nR_3_0, nR_3_1, nR_4_2, nR_5_2, nR_6_0, nR_6_1, nR_6_2, nR_7_0, nR_30_2, nR_30_3, nR_30_4, nR_30_6, nR_30_7, nR_30_9, nR_30_10, nR_30_11, nR_30_12, nR_30_13, nR_30_14, nR_30_15, nR_30_16, nR_30_18, nR_30_19, nR_30_20, nR_30_21, nR_30_22, nR_30_23, nR_30_24, nR_30_28, nR_30_29, nR_30_31, saF, saE, ho_upF, ho_upE, ne_eq, not_false_eq_true, Nat.reduceEqDiff]
  rw [hm]
  refine ⟨fun c1 => ?_, fun c1 => hKE _ (h a b (fun d hd => h5 d (by omega)) (fun d hd => h6 d (by omega)))⟩
  have hcm : c < m := by omega
  refine sp_findsTime (n := n) (by omega) hn h3 hf hl (fun s l hs => ?_)
  refine hKK _ _ (m - (c + 1)) (by omega) ⟨c + 1, fun d => if d = c then s else a d, fun d => if d = c then l else b d, by omega, ?_, rfl, ?_, fun d hd => ?_, fun d hd => ?_⟩
  · rw [wE (by omega) (by omega)]; simp
  · funext q j; unfold ho_up sa; grind
  · dsimp only
    by_cases q : d = c
    · subst q; rw [if_pos rfl, if_pos rfl]; exact hs
    · rw [if_neg q, if_neg q]; exact h5 d (by omega)
  · dsimp only; rw [if_neg (by omega), if_neg (by omega)]; exact h6 d (by omega)
theorem sp_takes {a n : Int} {σ : ho_S} {Q : ho_K} {X : ho_X} (h0 : 0 ≤ a) (h1 : 1 ≤ n) (h2 : a + n ≤ σ 30 5) (h3 : σ 30 5 ≤ 4800)
    (h : ∀ f g : Nat → Int, (∀ i : Nat, (i : Int) < σ 30 5 - n → f i = if (i : Int) < a then σ 34 i else σ 34 (i + n.toNat)) → (∀ i : Nat, (i : Int) < n → g i = σ 34 (a.toNat + i)) → Q 0 (sa (ho_up (sa σ 35 g) 30 5 (σ 30 5 - n)) 34 f)) : mX7_takes [30, a, n] σ Q X := by
  simp only [mX7_takes, fX7_takes, u_eC, u_eV, u_eF, u_eR, u_eI, u_eL, u_eB, u_eD, u_eM, u_eU, u_aN, u_aC, u_eK, u_eT, u_cLt, u_cLe, u_cGt, u_cGe, u_cEq, u_cNe, u_cAnd, u_cOr, u_cNot, u_zN, u_zS, u_zD, u_zL, u_zI, u_zB, u_zP, u_zF, u_zA, u_zU, u_zC, u_zR, u_zRZ, u_zRC, u_zRV, u_zT, u_zE, u_zK, u_zY, ho_nid, List.getD_cons_zero, List.getD_cons_succ, List.set_cons_zero, List.set_cons_succ, List.cons_append, List.nil_append, List.take_succ_cons, List.take_zero, Int.reduceToNat, Int.toNat_natCast, nN_0, nN_1, nN_2, nN_3, nN_4, nN_5, nN_6, nN_7, nN_8, nN_9, nN_10, nN_11, nN_12, nN_13, nN_14, nN_15, nN_16, nN_17, nN_18, nN_19, nN_20, nN_21, nN_22, nN_23, nN_24, nN_25, nN_26, nN_27, nN_28, nN_29, nN_30, nN_31, nN_32, nN_33, nN_34, nN_35, nN_36, nN_37, nN_38, nN_39, nN_40, nN_41, nN_42, nN_43, nN_44, nN_45, nN_46, nN_47, nN_48, nN_49, nN_50, nN_51, nN_52, nN_53, nN_54, nR_0_0, nR_0_1, nR_0_2, nR_0_3, nR_0_4, nR_0_5, nR_0_6, nR_0_7, nR_0_8, nR_0_9, nR_0_10, nR_1_0, nR_1_1, nR_1_2, nR_1_3, nR_1_4, nR_2_0, nR_2_1, nR_2_2, nR_2_3, nR_2_4, nR_3_0, nR_3_1, nR_4_2, nR_5_2, nR_6_0, nR_6_1, nR_6_2, nR_7_0, nR_30_2, nR_30_3, nR_30_4, nR_30_6, nR_30_7, nR_30_9, nR_30_10, nR_30_11, nR_30_12, nR_30_13, nR_30_14, nR_30_15, nR_30_16, nR_30_18, nR_30_19, nR_30_20, nR_30_21, nR_30_22, nR_30_23, nR_30_24, nR_30_28, nR_30_29, nR_30_31]
  refine zW_rule (fun v σ' m => ∃ (k : Nat) (g : Nat → Int), (k : Int) ≤ n ∧ v = [30, a, n, (k : Int)] ∧ m = n.toNat - k ∧ σ' = sa σ 35 g ∧ (∀ i : Nat, i < k → g i = σ 34 (a.toNat + i))) _ ⟨0, σ 35, by omega, rfl, rfl, sa_id.symm, fun i hi => by omega⟩ ?_
  rintro v σ' m ⟨k, g, hk, rfl, rfl, rfl, hg⟩ KK KE hKK hKE
  simp only [u_eC, u_eV, u_eF, u_eR, u_eI, u_eL, u_eB, u_eD, u_eM, u_eU, u_aN, u_aC, u_eK, u_eT, u_cLt, u_cLe, u_cGt, u_cGe, u_cEq, u_cNe, u_cAnd, u_cOr, u_cNot, u_zN, u_zS, u_zD, u_zL, u_zI, u_zB, u_zP, u_zF, u_zA, u_zU, u_zC, u_zR, u_zRZ, u_zRC, u_zRV, u_zT, u_zE, u_zK, u_zY, ho_nid, List.getD_cons_zero, List.getD_cons_succ, List.set_cons_zero, List.set_cons_succ, List.cons_append, List.nil_append, List.take_succ_cons, List.take_zero, Int.reduceToNat, Int.toNat_natCast, nN_0, nN_1, nN_2, nN_3, nN_4, nN_5, nN_6, nN_7, nN_8, nN_9, nN_10, nN_11, nN_12, nN_13, nN_14, nN_15, nN_16, nN_17, nN_18, nN_19, nN_20, nN_21, nN_22, nN_23, nN_24, nN_25, nN_26, nN_27, nN_28, nN_29, nN_30, nN_31, nN_32, nN_33, nN_34, nN_35, nN_36, nN_37, nN_38, nN_39, nN_40, nN_41, nN_42, nN_43, nN_44, nN_45, nN_46, nN_47, nN_48, nN_49, nN_50, nN_51, nN_52, nN_53, nN_54, nR_0_0, nR_0_1, nR_0_2, nR_0_3, nR_0_4, nR_0_5, nR_0_6, nR_0_7, nR_0_8, nR_0_9, nR_0_10, nR_1_0, nR_1_1, nR_1_2, nR_1_3, nR_1_4, nR_2_0, nR_2_1, nR_2_2, nR_2_3, nR_2_4, nR_3_0, nR_3_1, nR_4_2, nR_5_2, nR_6_0, nR_6_1, nR_6_2, nR_7_0, nR_30_2, nR_30_3, nR_30_4, nR_30_6, nR_30_7, nR_30_9, nR_30_10, nR_30_11, nR_30_12, nR_30_13, nR_30_14, nR_30_15, nR_30_16, nR_30_18, nR_30_19, nR_30_20, nR_30_21, nR_30_22, nR_30_23, nR_30_24, nR_30_28, nR_30_29, nR_30_31, saF, saE, ho_upF, ho_upE, ne_eq, not_false_eq_true, Nat.reduceEqDiff]
  simp only [mR_30_2, mR_30_3, mR_30_4, mR_30_6, mR_30_7, mR_30_9, mR_30_10, mR_30_11, mR_30_12, mR_30_13, mR_30_14, mR_30_15, mR_30_16, mR_30_18, mR_30_19, mR_30_20, mR_30_21, mR_30_22, mR_30_23, mR_30_24, mR_30_28, mR_30_29, mR_30_31, mR_0_9, mR_7_0, nN_25, nN_26, nN_27, nN_28, nN_29, nN_30, nN_31, nN_32, nN_33, nN_34, nN_35, nN_36, nN_37, nN_38, nN_39, nN_40, nN_41, nN_42, nN_43, nN_44, nN_45, nN_46, nN_47, nN_48, nN_49, nN_50, nN_51, nN_52, nN_53, nN_54, Int.toNat_natCast, saF, saE, ho_upF, ho_upE, ne_eq, not_false_eq_true, Nat.reduceEqDiff]
  refine ⟨fun c1 => ?_, fun c1 => hKE _ ?_⟩
  · have e1 : ho_oadd a (k : Int) = a + k := wE (by omega) (by omega)
    have e2 : ho_w ((k : Int) + 1) = ((k + 1 : Nat) : Int) := by rw [wE (by omega) (by omega)]; simp
    rw [e1, e2]
    clear e1 e2
    refine ⟨by omega, by omega, hKK _ _ (n.toNat - (k + 1)) (by omega) ⟨k + 1, fun j => if j = k then σ 34 (a.toNat + k) else g j, by omega, rfl, rfl, ?_, fun i hi => ?_⟩⟩
    · rw [sa_up, show (a + (k : Int)).toNat = a.toNat + k by omega]
    · grind
  show zW _ _ [30, a, n, a] (ho_up (sa σ 35 g) 30 5 (ho_osub (sa σ 35 g 30 5) n)) _ _ _
  have e1 : ho_osub (sa σ 35 g 30 5) n = σ 30 5 - n := wE (by show _ ≤ σ 30 5 - n; omega) (by show σ 30 5 - n < _; omega)
  rw [e1]
  clear e1
  refine zW_rule (fun v σ' m => ∃ (p : Nat) (f : Nat → Int), a ≤ p ∧ (p : Int) ≤ σ 30 5 - n ∧ v = [30, a, n, (p : Int)] ∧ m = (σ 30 5 - n).toNat - p ∧ σ' = sa (ho_up (sa σ 35 g) 30 5 (σ 30 5 - n)) 34 f ∧ (∀ i : Nat, i < p → f i = if (i : Int) < a then σ 34 i else σ 34 (i + n.toNat)) ∧ (∀ i : Nat, p ≤ i → f i = σ 34 i)) _ ⟨a.toNat, σ 34, by omega, by omega, by rw [show ((a.toNat : Nat) : Int) = a by omega], rfl, ?_, fun i hi => by rw [if_pos (by omega)], fun i _ => rfl⟩ ?_
  · funext q j; unfold ho_up sa; grind
  rintro v σ' m ⟨p, f, hp0, hp, rfl, rfl, rfl, hf1, hf2⟩ KK KE hKK hKE
  simp only [u_eC, u_eV, u_eF, u_eR, u_eI, u_eL, u_eB, u_eD, u_eM, u_eU, u_aN, u_aC, u_eK, u_eT, u_cLt, u_cLe, u_cGt, u_cGe, u_cEq, u_cNe, u_cAnd, u_cOr, u_cNot, u_zN, u_zS, u_zD, u_zL, u_zI, u_zB, u_zP, u_zF, u_zA, u_zU, u_zC, u_zR, u_zRZ, u_zRC, u_zRV, u_zT, u_zE, u_zK, u_zY, ho_nid, List.getD_cons_zero, List.getD_cons_succ, List.set_cons_zero, List.set_cons_succ, List.cons_append, List.nil_append, List.take_succ_cons, List.take_zero, Int.reduceToNat, Int.toNat_natCast, nN_0, nN_1, nN_2, nN_3, nN_4, nN_5, nN_6, nN_7, nN_8, nN_9, nN_10, nN_11, nN_12, nN_13, nN_14, nN_15, nN_16, nN_17, nN_18, nN_19, nN_20, nN_21, nN_22, nN_23, nN_24, nN_25, nN_26, nN_27, nN_28, nN_29, nN_30, nN_31, nN_32, nN_33, nN_34, nN_35, nN_36, nN_37, nN_38, nN_39, nN_40, nN_41, nN_42, nN_43, nN_44, nN_45, nN_46, nN_47, nN_48, nN_49, nN_50, nN_51, nN_52, nN_53, nN_54, nR_0_0, nR_0_1, nR_0_2, nR_0_3, nR_0_4, nR_0_5, nR_0_6, nR_0_7, nR_0_8, nR_0_9, nR_0_10, nR_1_0, nR_1_1, nR_1_2, nR_1_3, nR_1_4, nR_2_0, nR_2_1, nR_2_2, nR_2_3, nR_2_4, nR_3_0, nR_3_1, nR_4_2, nR_5_2, nR_6_0, nR_6_1, nR_6_2, nR_7_0, nR_30_2, nR_30_3, nR_30_4, nR_30_6, nR_30_7, nR_30_9, nR_30_10, nR_30_11, nR_30_12, nR_30_13, nR_30_14, nR_30_15, nR_30_16, nR_30_18, nR_30_19, nR_30_20, nR_30_21, nR_30_22, nR_30_23, nR_30_24, nR_30_28, nR_30_29, nR_30_31, saF, saE, ho_upF, ho_upE, ne_eq, not_false_eq_true, Nat.reduceEqDiff]
  simp only [mR_30_2, mR_30_3, mR_30_4, mR_30_6, mR_30_7, mR_30_9, mR_30_10, mR_30_11, mR_30_12, mR_30_13, mR_30_14, mR_30_15, mR_30_16, mR_30_18, mR_30_19, mR_30_20, mR_30_21, mR_30_22, mR_30_23, mR_30_24, mR_30_28, mR_30_29, mR_30_31, mR_0_9, mR_7_0, nN_25, nN_26, nN_27, nN_28, nN_29, nN_30, nN_31, nN_32, nN_33, nN_34, nN_35, nN_36, nN_37, nN_38, nN_39, nN_40, nN_41, nN_42, nN_43, nN_44, nN_45, nN_46, nN_47, nN_48, nN_49, nN_50, nN_51, nN_52, nN_53, nN_54, Int.toNat_natCast, saF, saE, ho_upF, ho_upE, ne_eq, not_false_eq_true, Nat.reduceEqDiff]
  refine ⟨fun c1 => ?_, fun c1 => hKE _ (h f g (fun i hi => hf1 i (by omega)) (fun i hi => hg i (by omega)))⟩
  have e1 : ho_oadd (p : Int) n = p + n := wE (by omega) (by omega)
  have e2 : ho_w ((p : Int) + 1) = ((p + 1 : Nat) : Int) := by rw [wE (by omega) (by omega)]; simp
  rw [e1, e2]
  clear e1 e2
  refine ⟨by omega, by omega, hKK _ _ ((σ 30 5 - n).toNat - (p + 1)) (by omega) ⟨p + 1, fun j => if j = p then σ 34 (p + n.toNat) else f j, by omega, by omega, rfl, rfl, ?_, fun i hi => ?_, fun i hi => ?_⟩⟩
  · rw [sa_up, show ((p : Int) + n).toNat = p + n.toNat by omega, hf2 _ (by omega)]
  · dsimp only
    by_cases q : i = p
    · subst q; rw [if_pos rfl, if_neg (by omega)]
    · rw [if_neg q]; exact hf1 i (by omega)
  · dsimp only; rw [if_neg (by omega)]; exact hf2 i (by omega)
theorem sp_puts {a n : Int} {σ : ho_S} {Q : ho_K} {X : ho_X} (h0 : 0 ≤ a) (h1 : 1 ≤ n) (h2 : a ≤ σ 30 5) (h3 : σ 30 5 + n ≤ 4800)
    (h : ∀ f : Nat → Int, (∀ i : Nat, (i : Int) < σ 30 5 + n → f i = if (i : Int) < a then σ 34 i else if (i : Int) < a + n then σ 35 (i - a.toNat) else σ 34 (i - n.toNat)) → Q 0 (ho_up (sa σ 34 f) 30 5 (σ 30 5 + n))) : mX7_puts [30, a, n] σ Q X := by
  simp only [mX7_puts, fX7_puts, u_eC, u_eV, u_eF, u_eR, u_eI, u_eL, u_eB, u_eD, u_eM, u_eU, u_aN, u_aC, u_eK, u_eT, u_cLt, u_cLe, u_cGt, u_cGe, u_cEq, u_cNe, u_cAnd, u_cOr, u_cNot, u_zN, u_zS, u_zD, u_zL, u_zI, u_zB, u_zP, u_zF, u_zA, u_zU, u_zC, u_zR, u_zRZ, u_zRC, u_zRV, u_zT, u_zE, u_zK, u_zY, ho_nid, List.getD_cons_zero, List.getD_cons_succ, List.set_cons_zero, List.set_cons_succ, List.cons_append, List.nil_append, List.take_succ_cons, List.take_zero, Int.reduceToNat, Int.toNat_natCast, nN_0, nN_1, nN_2, nN_3, nN_4, nN_5, nN_6, nN_7, nN_8, nN_9, nN_10, nN_11, nN_12, nN_13, nN_14, nN_15, nN_16, nN_17, nN_18, nN_19, nN_20, nN_21, nN_22, nN_23, nN_24, nN_25, nN_26, nN_27, nN_28, nN_29, nN_30, nN_31, nN_32, nN_33, nN_34, nN_35, nN_36, nN_37, nN_38, nN_39, nN_40, nN_41, nN_42, nN_43, nN_44, nN_45, nN_46, nN_47, nN_48, nN_49, nN_50, nN_51, nN_52, nN_53, nN_54, nR_0_0, nR_0_1, nR_0_2, nR_0_3, nR_0_4, nR_0_5, nR_0_6, nR_0_7, nR_0_8, nR_0_9, nR_0_10, nR_1_0, nR_1_1, nR_1_2, nR_1_3, nR_1_4, nR_2_0, nR_2_1, nR_2_2, nR_2_3, nR_2_4, nR_3_0, nR_3_1, nR_4_2, nR_5_2, nR_6_0, nR_6_1, nR_6_2, nR_7_0, nR_30_2, nR_30_3, nR_30_4, nR_30_6, nR_30_7, nR_30_9, nR_30_10, nR_30_11, nR_30_12, nR_30_13, nR_30_14, nR_30_15, nR_30_16, nR_30_18, nR_30_19, nR_30_20, nR_30_21, nR_30_22, nR_30_23, nR_30_24, nR_30_28, nR_30_29, nR_30_31]
  have e0 : ho_osub (σ 30 5) 1 = σ 30 5 - 1 := wE (by omega) (by omega)
  rw [e0]
  clear e0
  refine zW_rule (fun v σ' m => ∃ (p : Int) (f : Nat → Int), a - 1 ≤ p ∧ p ≤ σ 30 5 - 1 ∧ v = [30, a, n, p] ∧ m = (p + 1).toNat ∧ σ' = sa σ 34 f ∧ (∀ i : Nat, (i : Int) < p + 1 + n → (i : Int) ≤ p ∨ (i : Int) < σ 30 5 → f i = σ 34 i) ∧ (∀ i : Nat, p + 1 + n ≤ i → (i : Int) < σ 30 5 + n → f i = σ 34 (i - n.toNat)) ∧ ∀ i : Nat, (i : Int) ≤ p → f i = σ 34 i) _ ⟨σ 30 5 - 1, σ 34, by omega, by omega, rfl, rfl, sa_id.symm, fun i _ _ => rfl, fun i hi hi2 => by omega, fun i _ => rfl⟩ ?_
  rintro v σ' m ⟨p, f, hp0, hp, rfl, rfl, rfl, hf1, hf2, hf3⟩ KK KE hKK hKE
  simp only [u_eC, u_eV, u_eF, u_eR, u_eI, u_eL, u_eB, u_eD, u_eM, u_eU, u_aN, u_aC, u_eK, u_eT, u_cLt, u_cLe, u_cGt, u_cGe, u_cEq, u_cNe, u_cAnd, u_cOr, u_cNot, u_zN, u_zS, u_zD, u_zL, u_zI, u_zB, u_zP, u_zF, u_zA, u_zU, u_zC, u_zR, u_zRZ, u_zRC, u_zRV, u_zT, u_zE, u_zK, u_zY, ho_nid, List.getD_cons_zero, List.getD_cons_succ, List.set_cons_zero, List.set_cons_succ, List.cons_append, List.nil_append, List.take_succ_cons, List.take_zero, Int.reduceToNat, Int.toNat_natCast, nN_0, nN_1, nN_2, nN_3, nN_4, nN_5, nN_6, nN_7, nN_8, nN_9, nN_10, nN_11, nN_12, nN_13, nN_14, nN_15, nN_16, nN_17, nN_18, nN_19, nN_20, nN_21, nN_22, nN_23, nN_24, nN_25, nN_26, nN_27, nN_28, nN_29, nN_30, nN_31, nN_32, nN_33, nN_34, nN_35, nN_36, nN_37, nN_38, nN_39, nN_40, nN_41, nN_42, nN_43, nN_44, nN_45, nN_46, nN_47, nN_48, nN_49, nN_50, nN_51, nN_52, nN_53, nN_54, nR_0_0, nR_0_1, nR_0_2, nR_0_3, nR_0_4, nR_0_5, nR_0_6, nR_0_7, nR_0_8, nR_0_9, nR_0_10, nR_1_0, nR_1_1, nR_1_2, nR_1_3, nR_1_4, nR_2_0, nR_2_1, nR_2_2, nR_2_3, nR_2_4, nR_3_0, nR_3_1, nR_4_2, nR_5_2, nR_6_0, nR_6_1, nR_6_2, nR_7_0, nR_30_2, nR_30_3, nR_30_4, nR_30_6, nR_30_7, nR_30_9, nR_30_10, nR_30_11, nR_30_12, nR_30_13, nR_30_14, nR_30_15, nR_30_16, nR_30_18, nR_30_19, nR_30_20, nR_30_21, nR_30_22, nR_30_23, nR_30_24, nR_30_28, nR_30_29, nR_30_31, saF, saE, ho_upF, ho_upE, ne_eq, not_false_eq_true, Nat.reduceEqDiff]
  simp only [mR_30_2, mR_30_3, mR_30_4, mR_30_6, mR_30_7, mR_30_9, mR_30_10, mR_30_11, mR_30_12, mR_30_13, mR_30_14, mR_30_15, mR_30_16, mR_30_18, mR_30_19, mR_30_20, mR_30_21, mR_30_22, mR_30_23, mR_30_24, mR_30_28, mR_30_29, mR_30_31, mR_0_9, mR_7_0, nN_25, nN_26, nN_27, nN_28, nN_29, nN_30, nN_31, nN_32, nN_33, nN_34, nN_35, nN_36, nN_37, nN_38, nN_39, nN_40, nN_41, nN_42, nN_43, nN_44, nN_45, nN_46, nN_47, nN_48, nN_49, nN_50, nN_51, nN_52, nN_53, nN_54, Int.toNat_natCast, saF, saE, ho_upF, ho_upE, ne_eq, not_false_eq_true, Nat.reduceEqDiff]
  refine ⟨fun c1 => ?_, fun c1 => hKE _ ?_⟩
  · have e1 : ho_oadd p n = p + n := wE (by omega) (by omega)
    have e2 : ho_w (p + -1) = p - 1 := wE (by omega) (by omega)
    rw [e1, e2]
    clear e1 e2
    refine ⟨by omega, by omega, hKK _ _ ((p - 1 + 1).toNat) (by omega) ⟨p - 1, fun j => if j = (p + n).toNat then f p.toNat else f j, by omega, by omega, rfl, rfl, ?_, fun i hi hi2 => ?_, fun i hi hi2 => ?_, fun i hi => ?_⟩⟩
    · rw [sa_up]
    · dsimp only; rw [if_neg (by omega)]; exact hf1 i (by omega) (by omega)
    · dsimp only
      by_cases q : i = (p + n).toNat
      · rw [if_pos q, hf3 _ (by omega)]; congr 1; omega
      · rw [if_neg q]; exact hf2 i (by omega) hi2
    · dsimp only; rw [if_neg (by omega)]; exact hf3 i (by omega)
  have hpa : p = a - 1 := by omega
  show zW _ _ [30, a, n, 0] _ _ _ _
  refine zW_rule (fun v σ' m => ∃ (k : Nat) (g : Nat → Int), (k : Int) ≤ n ∧ v = [30, a, n, (k : Int)] ∧ m = n.toNat - k ∧ σ' = sa σ 34 g ∧ (∀ i : Nat, i < k → g (a.toNat + i) = σ 35 i) ∧ (∀ i : Nat, ((i : Int) < a ∨ a + k ≤ i) → g i = f i)) _ ⟨0, f, by omega, rfl, rfl, rfl, fun i hi => by omega, fun i _ => rfl⟩ ?_
  rintro v σ' m ⟨k, g, hk, rfl, rfl, rfl, hg1, hg2⟩ KK KE hKK hKE
  simp only [u_eC, u_eV, u_eF, u_eR, u_eI, u_eL, u_eB, u_eD, u_eM, u_eU, u_aN, u_aC, u_eK, u_eT, u_cLt, u_cLe, u_cGt, u_cGe, u_cEq, u_cNe, u_cAnd, u_cOr, u_cNot, u_zN, u_zS, u_zD, u_zL, u_zI, u_zB, u_zP, u_zF, u_zA, u_zU, u_zC, u_zR, u_zRZ, u_zRC, u_zRV, u_zT, u_zE, u_zK, u_zY, ho_nid, List.getD_cons_zero, List.getD_cons_succ, List.set_cons_zero, List.set_cons_succ, List.cons_append, List.nil_append, List.take_succ_cons, List.take_zero, Int.reduceToNat, Int.toNat_natCast, nN_0, nN_1, nN_2, nN_3, nN_4, nN_5, nN_6, nN_7, nN_8, nN_9, nN_10, nN_11, nN_12, nN_13, nN_14, nN_15, nN_16, nN_17, nN_18, nN_19, nN_20, nN_21, nN_22, nN_23, nN_24, nN_25, nN_26, nN_27, nN_28, nN_29, nN_30, nN_31, nN_32, nN_33, nN_34, nN_35, nN_36, nN_37, nN_38, nN_39, nN_40, nN_41, nN_42, nN_43, nN_44, nN_45, nN_46, nN_47, nN_48, nN_49, nN_50, nN_51, nN_52, nN_53, nN_54, nR_0_0, nR_0_1, nR_0_2, nR_0_3, nR_0_4, nR_0_5, nR_0_6, nR_0_7, nR_0_8, nR_0_9, nR_0_10, nR_1_0, nR_1_1, nR_1_2, nR_1_3, nR_1_4, nR_2_0, nR_2_1, nR_2_2, nR_2_3, nR_2_4, nR_3_0, nR_3_1, nR_4_2, nR_5_2, nR_6_0, nR_6_1, nR_6_2, nR_7_0, nR_30_2, nR_30_3, nR_30_4, nR_30_6, nR_30_7, nR_30_9, nR_30_10, nR_30_11, nR_30_12, nR_30_13, nR_30_14, nR_30_15, nR_30_16, nR_30_18, nR_30_19, nR_30_20, nR_30_21, nR_30_22, nR_30_23, nR_30_24, nR_30_28, nR_30_29, nR_30_31, saF, saE, ho_upF, ho_upE, ne_eq, not_false_eq_true, Nat.reduceEqDiff]
  simp only [mR_30_2, mR_30_3, mR_30_4, mR_30_6, mR_30_7, mR_30_9, mR_30_10, mR_30_11, mR_30_12, mR_30_13, mR_30_14, mR_30_15, mR_30_16, mR_30_18, mR_30_19, mR_30_20, mR_30_21, mR_30_22, mR_30_23, mR_30_24, mR_30_28, mR_30_29, mR_30_31, mR_0_9, mR_7_0, nN_25, nN_26, nN_27, nN_28, nN_29, nN_30, nN_31, nN_32, nN_33, nN_34, nN_35, nN_36, nN_37, nN_38, nN_39, nN_40, nN_41, nN_42, nN_43, nN_44, nN_45, nN_46, nN_47, nN_48, nN_49, nN_50, nN_51, nN_52, nN_53, nN_54, Int.toNat_natCast, saF, saE, ho_upF, ho_upE, ne_eq, not_false_eq_true, Nat.reduceEqDiff]
  refine ⟨fun c1 => ?_, fun c1 => hKE _ ?_⟩
  · have e1 : ho_oadd a (k : Int) = a + k := wE (by omega) (by omega)
    have e2 : ho_w ((k : Int) + 1) = ((k + 1 : Nat) : Int) := by rw [wE (by omega) (by omega)]; simp
    rw [e1, e2]
    clear e1 e2
    refine ⟨by omega, by omega, hKK _ _ (n.toNat - (k + 1)) (by omega) ⟨k + 1, fun j => if j = a.toNat + k then σ 35 k else g j, by omega, rfl, rfl, ?_, fun i hi => ?_, fun i hi => ?_⟩⟩
    · rw [sa_up, show (a + (k : Int)).toNat = a.toNat + k by omega]
    · dsimp only
      by_cases q : i = k
      · subst q; rw [if_pos rfl]
      · rw [if_neg (by omega)]; exact hg1 i (by omega)
    · dsimp only; rw [if_neg (by omega)]; exact hg2 i (by omega)
  · have e1 : ho_oadd (σ 30 5) n = σ 30 5 + n := wE (by omega) (by omega)
    show Q 0 (ho_up (sa σ 34 g) 30 5 (ho_oadd (σ 30 5) n))
    rw [e1]
    clear e1
    refine h g (fun i hi => ?_)
    by_cases q1 : (i : Int) < a
    · rw [if_pos q1, hg2 i (Or.inl q1)]; exact hf3 i (by omega)
    · rw [if_neg q1]
      by_cases q2 : (i : Int) < a + n
      · rw [if_pos q2]
        have := hg1 (i - a.toNat) (by omega)
        rw [show a.toNat + (i - a.toNat) = i by omega] at this
        exact this
      · rw [if_neg q2, hg2 i (Or.inr (by omega))]
        exact hf2 i (by omega) hi
