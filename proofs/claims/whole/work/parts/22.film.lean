theorem sp_shots {σ : ho_S} {Q : ho_K} {X : ho_X} : mX0_shots [1] σ Q X ↔ Q (σ 1 5) σ := by
  simp only [mX0_shots, fX0_shots, zN, zS, zD, zL, zI, zB, zP, zF, zA, zU, zC, zR, zRZ, zRC, zRV, zT, zE, zK, zY, eC, eV, eF, eR, eI, eL, eB, eD, eM, eU, eK, eT, aN, aC, cLt, cLe, cGt, cGe, cEq, cNe, cAnd, cOr, cNot, ho_nid, List.getD_cons_zero, List.getD_cons_succ, List.set_cons_zero, List.set_cons_succ, List.cons_append, List.nil_append, List.take_succ_cons, List.take_zero, Int.reduceToNat, Int.toNat_natCast]
theorem sp_fsize {σ : ho_S} {Q : ho_K} {X : ho_X} : mX0_size [1] σ Q X ↔ Q (σ 1 6) σ := by
  simp only [mX0_size, fX0_size, zN, zS, zD, zL, zI, zB, zP, zF, zA, zU, zC, zR, zRZ, zRC, zRV, zT, zE, zK, zY, eC, eV, eF, eR, eI, eL, eB, eD, eM, eU, eK, eT, aN, aC, cLt, cLe, cGt, cGe, cEq, cNe, cAnd, cOr, cNot, ho_nid, List.getD_cons_zero, List.getD_cons_succ, List.set_cons_zero, List.set_cons_succ, List.cons_append, List.nil_append, List.take_succ_cons, List.take_zero, Int.reduceToNat, Int.toNat_natCast]
theorem sp_shotFrames {s : Int} {σ : ho_S} {Q : ho_K} {X : ho_X} : mX0_shotFrames [1, s] σ Q X ↔ Q (gi σ 12 s) σ := by
  simp only [mX0_shotFrames, fX0_shotFrames, zN, zS, zD, zL, zI, zB, zP, zF, zA, zU, zC, zR, zRZ, zRC, zRV, zT, zE, zK, zY, eC, eV, eF, eR, eI, eL, eB, eD, eM, eU, eK, eT, aN, aC, cLt, cLe, cGt, cGe, cEq, cNe, cAnd, cOr, cNot, ho_nid, List.getD_cons_zero, List.getD_cons_succ, List.set_cons_zero, List.set_cons_succ, List.cons_append, List.nil_append, List.take_succ_cons, List.take_zero, Int.reduceToNat, Int.toNat_natCast, nN_0, nN_1, nN_2, nN_3, nN_4, nN_5, nN_6, nN_7, nN_8, nN_9, nN_10, nN_11, nN_12, nN_13, nN_14, nN_15, nN_16, nN_17, nN_18, nN_19, nN_20, nN_21, nN_22, nN_23, nN_24, nN_25, nN_26, nN_27, nN_28, nN_29, nN_30, nN_31, nN_32, nN_33, nN_34, nN_35, nN_36, nN_37, nN_38, nN_39, nN_40, nN_41, nN_42, nN_43, nN_44, nN_45, nN_46, nN_47, nN_48, nN_49, nN_50, nN_51, nN_52, nN_53, nN_54, nR_0_0, nR_0_1, nR_0_2, nR_0_3, nR_0_4, nR_0_5, nR_0_6, nR_0_7, nR_0_8, nR_0_9, nR_0_10, nR_1_0, nR_1_1, nR_1_2, nR_1_3, nR_1_4, nR_2_0, nR_2_1, nR_2_2, nR_2_3, nR_2_4, nR_3_0, nR_3_1, nR_4_2, nR_5_2, nR_6_0, nR_6_1, nR_6_2, nR_7_0, nR_30_2, nR_30_3, nR_30_4, nR_30_6, nR_30_7, nR_30_9, nR_30_10, nR_30_11, nR_30_12, nR_30_13, nR_30_14, nR_30_15, nR_30_16, nR_30_18, nR_30_19, nR_30_20, nR_30_21, nR_30_22, nR_30_23, nR_30_24, nR_30_28, nR_30_29, nR_30_31, sp_item]
theorem sp_keyAt {p : Int} {σ : ho_S} {Q : ho_K} {X : ho_X} : mX0_keyAt [1, p] σ Q X ↔ Q (gi σ 8 p) σ := by
  simp only [mX0_keyAt, fX0_keyAt, zN, zS, zD, zL, zI, zB, zP, zF, zA, zU, zC, zR, zRZ, zRC, zRV, zT, zE, zK, zY, eC, eV, eF, eR, eI, eL, eB, eD, eM, eU, eK, eT, aN, aC, cLt, cLe, cGt, cGe, cEq, cNe, cAnd, cOr, cNot, ho_nid, List.getD_cons_zero, List.getD_cons_succ, List.set_cons_zero, List.set_cons_succ, List.cons_append, List.nil_append, List.take_succ_cons, List.take_zero, Int.reduceToNat, Int.toNat_natCast, nN_0, nN_1, nN_2, nN_3, nN_4, nN_5, nN_6, nN_7, nN_8, nN_9, nN_10, nN_11, nN_12, nN_13, nN_14, nN_15, nN_16, nN_17, nN_18, nN_19, nN_20, nN_21, nN_22, nN_23, nN_24, nN_25, nN_26, nN_27, nN_28, nN_29, nN_30, nN_31, nN_32, nN_33, nN_34, nN_35, nN_36, nN_37, nN_38, nN_39, nN_40, nN_41, nN_42, nN_43, nN_44, nN_45, nN_46, nN_47, nN_48, nN_49, nN_50, nN_51, nN_52, nN_53, nN_54, nR_0_0, nR_0_1, nR_0_2, nR_0_3, nR_0_4, nR_0_5, nR_0_6, nR_0_7, nR_0_8, nR_0_9, nR_0_10, nR_1_0, nR_1_1, nR_1_2, nR_1_3, nR_1_4, nR_2_0, nR_2_1, nR_2_2, nR_2_3, nR_2_4, nR_3_0, nR_3_1, nR_4_2, nR_5_2, nR_6_0, nR_6_1, nR_6_2, nR_7_0, nR_30_2, nR_30_3, nR_30_4, nR_30_6, nR_30_7, nR_30_9, nR_30_10, nR_30_11, nR_30_12, nR_30_13, nR_30_14, nR_30_15, nR_30_16, nR_30_18, nR_30_19, nR_30_20, nR_30_21, nR_30_22, nR_30_23, nR_30_24, nR_30_28, nR_30_29, nR_30_31, sp_item]
theorem sp_placeOfFrame {s f : Int} {σ : ho_S} {Q : ho_K} {X : ho_X} : mX0_placeOfFrame [1, s, f] σ Q X ↔ Q (gi σ 10 (ho_w (ho_w (s * 401) + f))) σ := by
  simp only [mX0_placeOfFrame, fX0_placeOfFrame, zN, zS, zD, zL, zI, zB, zP, zF, zA, zU, zC, zR, zRZ, zRC, zRV, zT, zE, zK, zY, eC, eV, eF, eR, eI, eL, eB, eD, eM, eU, eK, eT, aN, aC, cLt, cLe, cGt, cGe, cEq, cNe, cAnd, cOr, cNot, ho_nid, List.getD_cons_zero, List.getD_cons_succ, List.set_cons_zero, List.set_cons_succ, List.cons_append, List.nil_append, List.take_succ_cons, List.take_zero, Int.reduceToNat, Int.toNat_natCast, nN_0, nN_1, nN_2, nN_3, nN_4, nN_5, nN_6, nN_7, nN_8, nN_9, nN_10, nN_11, nN_12, nN_13, nN_14, nN_15, nN_16, nN_17, nN_18, nN_19, nN_20, nN_21, nN_22, nN_23, nN_24, nN_25, nN_26, nN_27, nN_28, nN_29, nN_30, nN_31, nN_32, nN_33, nN_34, nN_35, nN_36, nN_37, nN_38, nN_39, nN_40, nN_41, nN_42, nN_43, nN_44, nN_45, nN_46, nN_47, nN_48, nN_49, nN_50, nN_51, nN_52, nN_53, nN_54, nR_0_0, nR_0_1, nR_0_2, nR_0_3, nR_0_4, nR_0_5, nR_0_6, nR_0_7, nR_0_8, nR_0_9, nR_0_10, nR_1_0, nR_1_1, nR_1_2, nR_1_3, nR_1_4, nR_2_0, nR_2_1, nR_2_2, nR_2_3, nR_2_4, nR_3_0, nR_3_1, nR_4_2, nR_5_2, nR_6_0, nR_6_1, nR_6_2, nR_7_0, nR_30_2, nR_30_3, nR_30_4, nR_30_6, nR_30_7, nR_30_9, nR_30_10, nR_30_11, nR_30_12, nR_30_13, nR_30_14, nR_30_15, nR_30_16, nR_30_18, nR_30_19, nR_30_20, nR_30_21, nR_30_22, nR_30_23, nR_30_24, nR_30_28, nR_30_29, nR_30_31, sp_item, ho_oadd, ho_omul]
theorem sp_isSeam {p : Int} {σ : ho_S} {Q : ho_K} {X : ho_X} : mX0_isSeam [1, p] σ Q X ↔ Q (if 0 < p ∧ gi σ 8 p ≠ ho_w (gi σ 8 (ho_w (p - 1)) + 1) then 1 else 0) σ := by
  simp only [mX0_isSeam, fX0_isSeam, zN, zS, zD, zL, zI, zB, zP, zF, zA, zU, zC, zR, zRZ, zRC, zRV, zT, zE, zK, zY, eC, eV, eF, eR, eI, eL, eB, eD, eM, eU, eK, eT, aN, aC, cLt, cLe, cGt, cGe, cEq, cNe, cAnd, cOr, cNot, ho_nid, List.getD_cons_zero, List.getD_cons_succ, List.set_cons_zero, List.set_cons_succ, List.cons_append, List.nil_append, List.take_succ_cons, List.take_zero, Int.reduceToNat, Int.toNat_natCast, sp_keyAt, nLt, nLe, nEq, nNe, n01, n00, ho_oadd, ho_osub]
  by_cases h1 : 0 < p
  · rw [if_pos h1]
    by_cases h2 : gi σ 8 p = ho_w (gi σ 8 (ho_w (p - 1)) + 1)
    · rw [if_pos h2, if_neg (fun q => q.2 h2)]; simp
    · rw [if_neg h2, if_pos ⟨h1, h2⟩]; simp
  · rw [if_neg h1, if_neg (fun q => h1 q.1)]; simp
/-- the captions on the frame at a place -/
def mkA (σ : ho_S) (p : Int) : Int := if 0 ≤ p ∧ p < σ 1 6 ∧ p < 4800 then (if 0 ≤ σ 8 p.toNat ∧ σ 8 p.toNat < 4812 then σ 11 (σ 8 p.toNat).toNat else 0) else 0
theorem sp_marksAt {p : Int} {σ : ho_S} {Q : ho_K} {X : ho_X} : mX0_marksAt [1, p] σ Q X ↔ Q (mkA σ p) σ := by
  simp only [mX0_marksAt, fX0_marksAt, zN, zS, zD, zL, zI, zB, zP, zF, zA, zU, zC, zR, zRZ, zRC, zRV, zT, zE, zK, zY, eC, eV, eF, eR, eI, eL, eB, eD, eM, eU, eK, eT, aN, aC, cLt, cLe, cGt, cGe, cEq, cNe, cAnd, cOr, cNot, ho_nid, List.getD_cons_zero, List.getD_cons_succ, List.set_cons_zero, List.set_cons_succ, List.cons_append, List.nil_append, List.take_succ_cons, List.take_zero, Int.reduceToNat, Int.toNat_natCast, nN_0, nN_1, nN_2, nN_3, nN_4, nN_5, nN_6, nN_7, nN_8, nN_9, nN_10, nN_11, nN_12, nN_13, nN_14, nN_15, nN_16, nN_17, nN_18, nN_19, nN_20, nN_21, nN_22, nN_23, nN_24, nN_25, nN_26, nN_27, nN_28, nN_29, nN_30, nN_31, nN_32, nN_33, nN_34, nN_35, nN_36, nN_37, nN_38, nN_39, nN_40, nN_41, nN_42, nN_43, nN_44, nN_45, nN_46, nN_47, nN_48, nN_49, nN_50, nN_51, nN_52, nN_53, nN_54, nR_0_0, nR_0_1, nR_0_2, nR_0_3, nR_0_4, nR_0_5, nR_0_6, nR_0_7, nR_0_8, nR_0_9, nR_0_10, nR_1_0, nR_1_1, nR_1_2, nR_1_3, nR_1_4, nR_2_0, nR_2_1, nR_2_2, nR_2_3, nR_2_4, nR_3_0, nR_3_1, nR_4_2, nR_5_2, nR_6_0, nR_6_1, nR_6_2, nR_7_0, nR_30_2, nR_30_3, nR_30_4, nR_30_6, nR_30_7, nR_30_9, nR_30_10, nR_30_11, nR_30_12, nR_30_13, nR_30_14, nR_30_15, nR_30_16, nR_30_18, nR_30_19, nR_30_20, nR_30_21, nR_30_22, nR_30_23, nR_30_24, nR_30_28, nR_30_29, nR_30_31, nLt, nLe, nEq, nNe]
  unfold mkA
  by_cases h1 : p < 0
  · rw [if_pos h1, if_neg (by omega)]
  · rw [if_neg h1]
    by_cases h2 : σ 1 6 ≤ p
    · rw [if_pos h2, if_neg (by omega)]
    · rw [if_neg h2]
      by_cases h3 : 4800 ≤ p
      · rw [if_pos h3, if_neg (by omega)]
      · have e9 : 0 ≤ p ∧ p < σ 1 6 ∧ p < 4800 := by omega
        rw [if_neg h3, if_pos e9]
        constructor
        · intro ⟨_, h⟩
          by_cases h4 : (0 : Int) ≤ σ 8 p.toNat
          · rw [if_pos h4] at h
            by_cases h5 : σ 8 p.toNat < 4812
            · rw [if_pos h5] at h; rw [if_pos (by omega)]; exact h.2
            · rw [if_neg h5] at h; rw [if_neg (by omega)]; exact h
          · rw [if_neg h4] at h; rw [if_neg (by omega)]; exact h
        · intro h
          refine ⟨by omega, ?_⟩
          by_cases h4 : (0 : Int) ≤ σ 8 p.toNat
          · rw [if_pos h4]
            by_cases h5 : σ 8 p.toNat < 4812
            · rw [if_pos h5]; rw [if_pos (by omega)] at h; exact ⟨by omega, h⟩
            · rw [if_neg h5]; rw [if_neg (by omega)] at h; exact h
          · rw [if_neg h4]; rw [if_neg (by omega)] at h; exact h
/-- places told anew for n places from a on -/
def rnum (keys pl : Nat → Int) (a : Nat) : Nat → Nat → Int
  | 0 => pl
  | n + 1 => fun k => if k = (keys (a + n)).toNat then ((a + n : Nat) : Int) else rnum keys pl a n k
theorem rnum_hit {keys pl : Nat → Int} {a n i : Nat} (hi : i < n) (hinj : ∀ i j, i < n → j < n → (keys (a + i)).toNat = (keys (a + j)).toNat → i = j) : rnum keys pl a n (keys (a + i)).toNat = ((a + i : Nat) : Int) := by
  induction n with
  | zero => omega
  | succ n ih =>
    unfold rnum
    by_cases h : i = n
    · subst h; simp
    · rw [if_neg (fun q => h (hinj i n (by omega) (by omega) q))]
      exact ih (by omega) (fun i j hi hj => hinj i j (by omega) (by omega))
theorem rnum_miss {keys pl : Nat → Int} {a n k : Nat} (h : ∀ i, i < n → k ≠ (keys (a + i)).toNat) : rnum keys pl a n k = pl k := by
  induction n with
  | zero => rfl
  | succ n ih =>
    unfold rnum
    rw [if_neg (h n (by omega))]
    exact ih (fun i hi => h i (by omega))
theorem sp_renumber {a : Int} {σ : ho_S} {Q : ho_K} {X : ho_X} (h0 : 0 ≤ a) (h1 : a ≤ σ 1 6) (h2 : σ 1 6 ≤ 4800) (hk : ∀ i : Nat, a ≤ i → (i : Int) < σ 1 6 → 0 ≤ σ 8 i ∧ σ 8 i < 4812) (h : Q 0 (sa σ 10 (rnum (σ 8) (σ 10) a.toNat (σ 1 6 - a).toNat))) : mX0_renumber [1, a] σ Q X := by
  simp only [mX0_renumber, fX0_renumber, zN, zS, zD, zL, zI, zB, zP, zF, zA, zU, zC, zR, zRZ, zRC, zRV, zT, zE, zK, zY, eC, eV, eF, eR, eI, eL, eB, eD, eM, eU, eK, eT, aN, aC, cLt, cLe, cGt, cGe, cEq, cNe, cAnd, cOr, cNot, ho_nid, List.getD_cons_zero, List.getD_cons_succ, List.set_cons_zero, List.set_cons_succ, List.cons_append, List.nil_append, List.take_succ_cons, List.take_zero, Int.reduceToNat, Int.toNat_natCast, nN_0, nN_1, nN_2, nN_3, nN_4, nN_5, nN_6, nN_7, nN_8, nN_9, nN_10, nN_11, nN_12, nN_13, nN_14, nN_15, nN_16, nN_17, nN_18, nN_19, nN_20, nN_21, nN_22, nN_23, nN_24, nN_25, nN_26, nN_27, nN_28, nN_29, nN_30, nN_31, nN_32, nN_33, nN_34, nN_35, nN_36, nN_37, nN_38, nN_39, nN_40, nN_41, nN_42, nN_43, nN_44, nN_45, nN_46, nN_47, nN_48, nN_49, nN_50, nN_51, nN_52, nN_53, nN_54, nR_0_0, nR_0_1, nR_0_2, nR_0_3, nR_0_4, nR_0_5, nR_0_6, nR_0_7, nR_0_8, nR_0_9, nR_0_10, nR_1_0, nR_1_1, nR_1_2, nR_1_3, nR_1_4, nR_2_0, nR_2_1, nR_2_2, nR_2_3, nR_2_4, nR_3_0, nR_3_1, nR_4_2, nR_5_2, nR_6_0, nR_6_1, nR_6_2, nR_7_0, nR_30_2, nR_30_3, nR_30_4, nR_30_6, nR_30_7, nR_30_9, nR_30_10, nR_30_11, nR_30_12, nR_30_13, nR_30_14, nR_30_15, nR_30_16, nR_30_18, nR_30_19, nR_30_20, nR_30_21, nR_30_22, nR_30_23, nR_30_24, nR_30_28, nR_30_29, nR_30_31]
  refine ⟨fun v σ' n => ∃ k : Nat, (k : Int) ≤ σ 1 6 - a ∧ v = [1, a, a + k] ∧ n = (σ 1 6 - a).toNat - k ∧ σ' = sa σ 10 (rnum (σ 8) (σ 10) a.toNat k), ⟨_, 0, by omega, by simp, rfl, by rw [show rnum (σ 8) (σ 10) a.toNat 0 = σ 10 from rfl, sa_id]⟩, ?_⟩
  rintro v σ' n ⟨k, hk1, rfl, rfl, rfl⟩
  simp only [zN, zS, zD, zL, zI, zB, zP, zF, zA, zU, zC, zR, zRZ, zRC, zRV, zT, zE, zK, zY, eC, eV, eF, eR, eI, eL, eB, eD, eM, eU, eK, eT, aN, aC, cLt, cLe, cGt, cGe, cEq, cNe, cAnd, cOr, cNot, ho_nid, List.getD_cons_zero, List.getD_cons_succ, List.set_cons_zero, List.set_cons_succ, List.cons_append, List.nil_append, List.take_succ_cons, List.take_zero, Int.reduceToNat, Int.toNat_natCast, nN_0, nN_1, nN_2, nN_3, nN_4, nN_5, nN_6, nN_7, nN_8, nN_9, nN_10, nN_11, nN_12, nN_13, nN_14, nN_15, nN_16, nN_17, nN_18, nN_19, nN_20, nN_21, nN_22, nN_23, nN_24, nN_25, nN_26, nN_27, nN_28, nN_29, nN_30, nN_31, nN_32, nN_33, nN_34, nN_35, nN_36, nN_37, nN_38, nN_39, nN_40, nN_41, nN_42, nN_43, nN_44, nN_45, nN_46, nN_47, nN_48, nN_49, nN_50, nN_51, nN_52, nN_53, nN_54, nR_0_0, nR_0_1, nR_0_2, nR_0_3, nR_0_4, nR_0_5, nR_0_6, nR_0_7, nR_0_8, nR_0_9, nR_0_10, nR_1_0, nR_1_1, nR_1_2, nR_1_3, nR_1_4, nR_2_0, nR_2_1, nR_2_2, nR_2_3, nR_2_4, nR_3_0, nR_3_1, nR_4_2, nR_5_2, nR_6_0, nR_6_1, nR_6_2, nR_7_0, nR_30_2, nR_30_3, nR_30_4, nR_30_6, nR_30_7, nR_30_9, nR_30_10, nR_30_11, nR_30_12, nR_30_13, nR_30_14, nR_30_15, nR_30_16, nR_30_18, nR_30_19, nR_30_20, nR_30_21, nR_30_22, nR_30_23, nR_30_24, nR_30_28, nR_30_29, nR_30_31, saF (show (1 : Nat) ≠ 10 by decide), saF (show (8 : Nat) ≠ 10 by decide), saE, ho_oadd]
  have hidx : (a + (k : Int)).toNat = a.toNat + k := by omega
  refine ⟨fun _ => ⟨fun c2 => ⟨fun c3 => ⟨by omega, ?_⟩, fun c3 => by omega⟩, fun c2 => ?_⟩, fun _ => by omega⟩
  · have hv := hk (a.toNat + k) (by omega) (by omega)
    rw [hidx]
    refine ⟨fun _ => ⟨fun _ => ⟨by omega, ?_⟩, fun _ => by omega⟩, fun _ => by omega⟩
    refine ⟨_, ?_, k + 1, by omega, ?_, rfl, ?_⟩
    · omega
    · rw [wE (by omega) (by omega)]; simp; omega
    · rw [sa_up]
      congr 1
      funext j
      show (if j = (σ 8 (a.toNat + k)).toNat then a + (k : Int) else _) = (if j = (σ 8 (a.toNat + k)).toNat then ((a.toNat + k : Nat) : Int) else _)
      rw [show a + (k : Int) = ((a.toNat + k : Nat) : Int) by omega]
  · have hkk : (σ 1 6 - a).toNat = k := by omega
    rw [hkk] at h
    exact h
/-- a stretch of keys, from a on, n of them, none the same -/
def inj (f : Nat → Int) (a n : Nat) : Prop := ∀ i j, i < n → j < n → (f (a + i)).toNat = (f (a + j)).toNat → i = j
theorem sp_takeOut {a n : Int} {σ : ho_S} {Q : ho_K} {X : ho_X} (h0 : 0 ≤ a) (h1 : 1 ≤ n) (h2 : a + n ≤ σ 1 6) (h3 : σ 1 6 ≤ 4800) (hk : ∀ i : Nat, (i : Int) < σ 1 6 → 0 ≤ σ 8 i ∧ σ 8 i < 4812)
    (h : ∀ (k' pl : Nat → Int), (∀ i : Nat, k' i = if a ≤ (i : Int) ∧ (i : Int) < σ 1 6 - n then σ 8 (i + n.toNat) else σ 8 i) → (∀ k, (∃ i : Nat, i < n.toNat ∧ (σ 8 (a.toNat + i)).toNat = k) → pl k = -1) → (∀ k, (∀ i : Nat, i < n.toNat → (σ 8 (a.toNat + i)).toNat ≠ k) → pl k = σ 10 k) → Q 0 (sa (ho_up (sa σ 8 k') 1 6 (σ 1 6 - n)) 10 (rnum k' pl a.toNat (σ 1 6 - n - a).toNat))) : mX0_takeOut [1, a, n] σ Q X := by
  simp only [mX0_takeOut, fX0_takeOut, zN, zS, zD, zL, zI, zB, zP, zF, zA, zU, zC, zR, zRZ, zRC, zRV, zT, zE, zK, zY, eC, eV, eF, eR, eI, eL, eB, eD, eM, eU, eK, eT, aN, aC, cLt, cLe, cGt, cGe, cEq, cNe, cAnd, cOr, cNot, ho_nid, List.getD_cons_zero, List.getD_cons_succ, List.set_cons_zero, List.set_cons_succ, List.cons_append, List.nil_append, List.take_succ_cons, List.take_zero, Int.reduceToNat, Int.toNat_natCast, nN_0, nN_1, nN_2, nN_3, nN_4, nN_5, nN_6, nN_7, nN_8, nN_9, nN_10, nN_11, nN_12, nN_13, nN_14, nN_15, nN_16, nN_17, nN_18, nN_19, nN_20, nN_21, nN_22, nN_23, nN_24, nN_25, nN_26, nN_27, nN_28, nN_29, nN_30, nN_31, nN_32, nN_33, nN_34, nN_35, nN_36, nN_37, nN_38, nN_39, nN_40, nN_41, nN_42, nN_43, nN_44, nN_45, nN_46, nN_47, nN_48, nN_49, nN_50, nN_51, nN_52, nN_53, nN_54, nR_0_0, nR_0_1, nR_0_2, nR_0_3, nR_0_4, nR_0_5, nR_0_6, nR_0_7, nR_0_8, nR_0_9, nR_0_10, nR_1_0, nR_1_1, nR_1_2, nR_1_3, nR_1_4, nR_2_0, nR_2_1, nR_2_2, nR_2_3, nR_2_4, nR_3_0, nR_3_1, nR_4_2, nR_5_2, nR_6_0, nR_6_1, nR_6_2, nR_7_0, nR_30_2, nR_30_3, nR_30_4, nR_30_6, nR_30_7, nR_30_9, nR_30_10, nR_30_11, nR_30_12, nR_30_13, nR_30_14, nR_30_15, nR_30_16, nR_30_18, nR_30_19, nR_30_20, nR_30_21, nR_30_22, nR_30_23, nR_30_24, nR_30_28, nR_30_29, nR_30_31, sp_keyAt, sp_store, ho_oadd, ho_osub]
  -- the loop that takes the places away
  have step : ∀ k : Nat, (k : Int) < n → gi σ 8 (ho_w (a + k)) = σ 8 (a.toNat + k) := by
    intro k hk9
    rw [wE (by omega) (by omega), gi_in (by omega) (by show a + (k : Int) < 4800; omega)]
    show σ 8 (a + (k : Int)).toNat = _
    rw [show (a + (k : Int)).toNat = a.toNat + k by omega]
  refine ⟨fun v σ' m => ∃ k : Nat, (k : Int) ≤ n ∧ v = [1, a, n, (k : Int)] ∧ m = n.toNat - k ∧ ∃ pl : Nat → Int, σ' = sa σ 10 pl ∧ (∀ q, (∃ i : Nat, i < k ∧ (σ 8 (a.toNat + i)).toNat = q) → pl q = -1) ∧ (∀ q, (∀ i : Nat, i < k → (σ 8 (a.toNat + i)).toNat ≠ q) → pl q = σ 10 q), ⟨_, 0, by omega, rfl, rfl, σ 10, sa_id.symm, fun q ⟨i, hi, _⟩ => by omega, fun q _ => rfl⟩, ?_⟩
  rintro v σ' m ⟨k, hk1, rfl, rfl, pl, rfl, hp1, hp2⟩
  simp only [zN, zS, zD, zL, zI, zB, zP, zF, zA, zU, zC, zR, zRZ, zRC, zRV, zT, zE, zK, zY, eC, eV, eF, eR, eI, eL, eB, eD, eM, eU, eK, eT, aN, aC, cLt, cLe, cGt, cGe, cEq, cNe, cAnd, cOr, cNot, ho_nid, List.getD_cons_zero, List.getD_cons_succ, List.set_cons_zero, List.set_cons_succ, List.cons_append, List.nil_append, List.take_succ_cons, List.take_zero, Int.reduceToNat, Int.toNat_natCast, nN_0, nN_1, nN_2, nN_3, nN_4, nN_5, nN_6, nN_7, nN_8, nN_9, nN_10, nN_11, nN_12, nN_13, nN_14, nN_15, nN_16, nN_17, nN_18, nN_19, nN_20, nN_21, nN_22, nN_23, nN_24, nN_25, nN_26, nN_27, nN_28, nN_29, nN_30, nN_31, nN_32, nN_33, nN_34, nN_35, nN_36, nN_37, nN_38, nN_39, nN_40, nN_41, nN_42, nN_43, nN_44, nN_45, nN_46, nN_47, nN_48, nN_49, nN_50, nN_51, nN_52, nN_53, nN_54, nR_0_0, nR_0_1, nR_0_2, nR_0_3, nR_0_4, nR_0_5, nR_0_6, nR_0_7, nR_0_8, nR_0_9, nR_0_10, nR_1_0, nR_1_1, nR_1_2, nR_1_3, nR_1_4, nR_2_0, nR_2_1, nR_2_2, nR_2_3, nR_2_4, nR_3_0, nR_3_1, nR_4_2, nR_5_2, nR_6_0, nR_6_1, nR_6_2, nR_7_0, nR_30_2, nR_30_3, nR_30_4, nR_30_6, nR_30_7, nR_30_9, nR_30_10, nR_30_11, nR_30_12, nR_30_13, nR_30_14, nR_30_15, nR_30_16, nR_30_18, nR_30_19, nR_30_20, nR_30_21, nR_30_22, nR_30_23, nR_30_24, nR_30_28, nR_30_29, nR_30_31, sp_keyAt, sp_store, ho_oadd, ho_osub]
  refine ⟨fun c1 => ?_, fun c1 => ?_⟩
  · have e1 : gi (sa σ 10 pl) 8 (ho_w (a + (k : Int))) = σ 8 (a.toNat + k) := by
      rw [← step k c1]
      unfold gi
      rfl
    have hv := hk (a.toNat + k) (by omega)
    rw [e1, si_in hv.1 (by show _ < 4812; omega)]
    refine ⟨_, ?_, k + 1, by omega, ?_, rfl, fun q => if q = (σ 8 (a.toNat + k)).toNat then -1 else pl q, ?_, fun q hq => ?_, fun q hq => ?_⟩
    · omega
    · rw [wE (by omega) (by omega)]; simp
    · show ho_up (sa σ 10 pl) 10 _ _ = _
      rw [sa_up]
    · obtain ⟨i, hi, rfl⟩ := hq
      dsimp only
      by_cases h9 : (σ 8 (a.toNat + i)).toNat = (σ 8 (a.toNat + k)).toNat
      · rw [if_pos h9]
      · rw [if_neg h9]
        exact hp1 _ ⟨i, by
          rcases Nat.lt_or_ge i k with z | z
          · exact z
          · exact absurd (by rw [show i = k by omega]) h9, rfl⟩
    · dsimp only
      rw [if_neg (fun z => hq k (by omega) z.symm)]
      exact hp2 q (fun i hi => hq i (by omega))
  · have hkn : k = n.toNat := by omega
    subst hkn
    simp only [saF (show (1 : Nat) ≠ 10 by decide)]
    rw [wE (x := a + n) (by omega) (by omega), wE (x := σ 1 6 - a) (by omega) (by omega), wE (x := σ 1 6 - a - n) (by omega) (by omega)]
    refine sp_copyItems (by omega) (by omega) (by omega) (by show _ ≤ 4800; omega) (by show _ ≤ 4800; omega) (by decide) (by decide) ?_
    obtain ⟨k', hk'⟩ : ∃ k' : Nat → Int, k' = fun j => if a.toNat ≤ j ∧ j < a.toNat + (σ 1 6 - a - n).toNat then σ 8 ((a + n).toNat + (j - a.toNat)) else σ 8 j := ⟨_, rfl⟩
    have e1 : cp (sa σ 10 pl) 8 (a + n) 8 a (σ 1 6 - a - n) = sa (sa σ 10 pl) 8 k' := by rw [hk']; rfl
    have e2 : ∀ i : Nat, k' i = if a ≤ (i : Int) ∧ (i : Int) < σ 1 6 - n then σ 8 (i + n.toNat) else σ 8 i := by
      intro i
      rw [hk']
      dsimp only
      by_cases h9 : a ≤ (i : Int) ∧ (i : Int) < σ 1 6 - n
      · rw [if_pos h9, if_pos (by omega), show (a + n).toNat + (i - a.toNat) = i + n.toNat by omega]
      · rw [if_neg h9, if_neg (by omega)]
    rw [e1]
    have e3 : ho_w (sa (sa σ 10 pl) 8 k' 1 6 - n) = σ 1 6 - n := by
      show ho_w (σ 1 6 - n) = _
      exact wE (by omega) (by omega)
    rw [e3]
    refine sp_renumber h0 (by show a ≤ σ 1 6 - n; omega) (by show σ 1 6 - n ≤ 4800; omega) (fun i hi1 hi2 => ?_) ?_
    · have hi2 : (i : Int) < σ 1 6 - n := hi2
      show 0 ≤ k' i ∧ k' i < 4812
      rw [e2 i, if_pos ⟨hi1, hi2⟩]
      exact hk _ (by omega)
    · have h9 := h k' pl e2 (fun q hq => hp1 q hq) (fun q hq => hp2 q hq)
      have e4 : sa (ho_up (sa (sa σ 10 pl) 8 k') 1 6 (σ 1 6 - n)) 10 (rnum k' pl a.toNat (σ 1 6 - n - a).toNat) = sa (ho_up (sa σ 8 k') 1 6 (σ 1 6 - n)) 10 (rnum k' pl a.toNat (σ 1 6 - n - a).toNat) := by
        funext q j
        unfold sa ho_up
        by_cases hq : q = 10
        · simp [hq]
        · simp [hq]
      rw [← e4] at h9
      exact h9
theorem sp_putIn {s f n a : Int} {σ : ho_S} {Q : ho_K} {X : ho_X} (hs0 : 0 ≤ s) (hs1 : s < 12) (hf0 : 0 ≤ f) (h1 : 1 ≤ n) (hf1 : f + n ≤ 400) (h0 : 0 ≤ a) (h2 : a ≤ σ 1 6) (h3 : σ 1 6 + n ≤ 4800) (hk : ∀ i : Nat, (i : Int) < σ 1 6 → 0 ≤ σ 8 i ∧ σ 8 i < 4812)
    (h : ∀ k' : Nat → Int, (∀ i : Nat, (i : Int) < σ 1 6 + n → k' i = if (i : Int) < a then σ 8 i else if (i : Int) < a + n then s * 401 + f + ((i : Int) - a) else σ 8 (i - n.toNat)) → Q 0 (sa (ho_up (sa σ 8 k') 1 6 (σ 1 6 + n)) 10 (rnum k' (σ 10) a.toNat (σ 1 6 + n - a).toNat))) : mX0_putIn [1, s, f, n, a] σ Q X := by
  simp only [mX0_putIn, fX0_putIn, zN, zS, zD, zL, zI, zB, zP, zF, zA, zU, zC, zR, zRZ, zRC, zRV, zT, zE, zK, zY, eC, eV, eF, eR, eI, eL, eB, eD, eM, eU, eK, eT, aN, aC, cLt, cLe, cGt, cGe, cEq, cNe, cAnd, cOr, cNot, ho_nid, List.getD_cons_zero, List.getD_cons_succ, List.set_cons_zero, List.set_cons_succ, List.cons_append, List.nil_append, List.take_succ_cons, List.take_zero, Int.reduceToNat, Int.toNat_natCast, nN_0, nN_1, nN_2, nN_3, nN_4, nN_5, nN_6, nN_7, nN_8, nN_9, nN_10, nN_11, nN_12, nN_13, nN_14, nN_15, nN_16, nN_17, nN_18, nN_19, nN_20, nN_21, nN_22, nN_23, nN_24, nN_25, nN_26, nN_27, nN_28, nN_29, nN_30, nN_31, nN_32, nN_33, nN_34, nN_35, nN_36, nN_37, nN_38, nN_39, nN_40, nN_41, nN_42, nN_43, nN_44, nN_45, nN_46, nN_47, nN_48, nN_49, nN_50, nN_51, nN_52, nN_53, nN_54, nR_0_0, nR_0_1, nR_0_2, nR_0_3, nR_0_4, nR_0_5, nR_0_6, nR_0_7, nR_0_8, nR_0_9, nR_0_10, nR_1_0, nR_1_1, nR_1_2, nR_1_3, nR_1_4, nR_2_0, nR_2_1, nR_2_2, nR_2_3, nR_2_4, nR_3_0, nR_3_1, nR_4_2, nR_5_2, nR_6_0, nR_6_1, nR_6_2, nR_7_0, nR_30_2, nR_30_3, nR_30_4, nR_30_6, nR_30_7, nR_30_9, nR_30_10, nR_30_11, nR_30_12, nR_30_13, nR_30_14, nR_30_15, nR_30_16, nR_30_18, nR_30_19, nR_30_20, nR_30_21, nR_30_22, nR_30_23, nR_30_24, nR_30_28, nR_30_29, nR_30_31, ho_oadd, ho_osub]
  rw [wE (x := a + n) (by omega) (by omega), wE (x := σ 1 6 - a) (by omega) (by omega)]
  refine sp_copyItems (by omega) (by omega) (by omega) (by show _ ≤ (4800 : Int); omega) (by show _ ≤ (4800 : Int); omega) (by decide) (by decide) ?_
  obtain ⟨k1, hk1⟩ : ∃ k1 : Nat → Int, k1 = fun j => if (a + n).toNat ≤ j ∧ j < (a + n).toNat + (σ 1 6 - a).toNat then σ 8 (a.toNat + (j - (a + n).toNat)) else σ 8 j := ⟨_, rfl⟩
  have e1 : cp σ 8 a 8 (a + n) (σ 1 6 - a) = sa σ 8 k1 := by rw [hk1]; rfl
  rw [e1]
  refine ⟨fun v σ' m => ∃ k : Nat, (k : Int) ≤ n ∧ v = [1, s, f, n, a, (k : Int)] ∧ m = n.toNat - k ∧ ∃ k2 : Nat → Int, σ' = sa σ 8 k2 ∧ ∀ i : Nat, k2 i = if a ≤ (i : Int) ∧ (i : Int) < a + k then s * 401 + f + ((i : Int) - a) else k1 i, ⟨_, 0, by omega, rfl, rfl, k1, rfl, fun i => by rw [if_neg (by omega)]⟩, ?_⟩
  rintro v σ' m ⟨k, hkn, rfl, rfl, k2, rfl, hk2⟩
  simp only [zN, zS, zD, zL, zI, zB, zP, zF, zA, zU, zC, zR, zRZ, zRC, zRV, zT, zE, zK, zY, eC, eV, eF, eR, eI, eL, eB, eD, eM, eU, eK, eT, aN, aC, cLt, cLe, cGt, cGe, cEq, cNe, cAnd, cOr, cNot, ho_nid, List.getD_cons_zero, List.getD_cons_succ, List.set_cons_zero, List.set_cons_succ, List.cons_append, List.nil_append, List.take_succ_cons, List.take_zero, Int.reduceToNat, Int.toNat_natCast, nN_0, nN_1, nN_2, nN_3, nN_4, nN_5, nN_6, nN_7, nN_8, nN_9, nN_10, nN_11, nN_12, nN_13, nN_14, nN_15, nN_16, nN_17, nN_18, nN_19, nN_20, nN_21, nN_22, nN_23, nN_24, nN_25, nN_26, nN_27, nN_28, nN_29, nN_30, nN_31, nN_32, nN_33, nN_34, nN_35, nN_36, nN_37, nN_38, nN_39, nN_40, nN_41, nN_42, nN_43, nN_44, nN_45, nN_46, nN_47, nN_48, nN_49, nN_50, nN_51, nN_52, nN_53, nN_54, nR_0_0, nR_0_1, nR_0_2, nR_0_3, nR_0_4, nR_0_5, nR_0_6, nR_0_7, nR_0_8, nR_0_9, nR_0_10, nR_1_0, nR_1_1, nR_1_2, nR_1_3, nR_1_4, nR_2_0, nR_2_1, nR_2_2, nR_2_3, nR_2_4, nR_3_0, nR_3_1, nR_4_2, nR_5_2, nR_6_0, nR_6_1, nR_6_2, nR_7_0, nR_30_2, nR_30_3, nR_30_4, nR_30_6, nR_30_7, nR_30_9, nR_30_10, nR_30_11, nR_30_12, nR_30_13, nR_30_14, nR_30_15, nR_30_16, nR_30_18, nR_30_19, nR_30_20, nR_30_21, nR_30_22, nR_30_23, nR_30_24, nR_30_28, nR_30_29, nR_30_31, sp_store, ho_oadd, ho_osub, ho_omul]
  refine ⟨fun c1 => ?_, fun c1 => ?_⟩
  · rw [wE (x := s * 401) (by omega) (by omega), wE (x := s * 401 + f) (by omega) (by omega), wE (x := s * 401 + f + k) (by omega) (by omega), wE (x := a + (k : Int)) (by omega) (by omega), si_in (by omega) (by show _ < (4800 : Int); omega)]
    refine ⟨_, ?_, k + 1, by omega, ?_, rfl, fun j => if j = (a + (k : Int)).toNat then s * 401 + f + k else k2 j, ?_, fun i => ?_⟩
    · omega
    · rw [wE (by omega) (by omega)]; simp
    · show ho_up (sa σ 8 k2) 8 _ _ = _
      rw [sa_up]
    · dsimp only
      rw [hk2]
      by_cases h9 : i = (a + (k : Int)).toNat
      · rw [if_pos h9, if_pos (by omega)]; omega
      · rw [if_neg h9]
        by_cases h8 : a ≤ (i : Int) ∧ (i : Int) < a + k
        · rw [if_pos h8, if_pos (by omega)]
        · rw [if_neg h8, if_neg (by omega)]
  · have hkn2 : (k : Int) = n := by omega
    have e3 : ho_w (sa σ 8 k2 1 6 + n) = σ 1 6 + n := by
      show ho_w (σ 1 6 + n) = _
      exact wE (by omega) (by omega)
    rw [e3]
    have e2 : ∀ i : Nat, (i : Int) < σ 1 6 + n → k2 i = if (i : Int) < a then σ 8 i else if (i : Int) < a + n then s * 401 + f + ((i : Int) - a) else σ 8 (i - n.toNat) := by
      intro i hi
      rw [hk2, hk1]
      dsimp only
      by_cases h9 : (i : Int) < a
      · rw [if_neg (by omega), if_neg (by omega), if_pos h9]
      · rw [if_neg h9]
        by_cases h8 : (i : Int) < a + n
        · rw [if_pos (by omega), if_pos h8]
        · rw [if_neg (by omega), if_pos (by omega), if_neg h8, show a.toNat + (i - (a + n).toNat) = i - n.toNat by omega]
    refine sp_renumber h0 (by show a ≤ σ 1 6 + n; omega) (by show σ 1 6 + n ≤ 4800; omega) (fun i hi1 hi2 => ?_) ?_
    · have hi2 : (i : Int) < σ 1 6 + n := hi2
      show 0 ≤ k2 i ∧ k2 i < 4812
      rw [e2 i hi2, if_neg (by omega)]
      by_cases h8 : (i : Int) < a + n
      · rw [if_pos h8]; omega
      · rw [if_neg h8]; exact hk _ (by omega)
    · exact h k2 e2
theorem sp_shift {a n t : Int} {σ : ho_S} {Q : ho_K} {X : ho_X} (h0 : 0 ≤ a) (h1 : 1 ≤ n) (h2 : a + n ≤ σ 1 6) (ht0 : 0 ≤ t) (ht1 : t + n ≤ σ 1 6) (h3 : σ 1 6 ≤ 4800) (hk : ∀ i : Nat, (i : Int) < σ 1 6 → 0 ≤ σ 8 i ∧ σ 8 i < 4812)
    (h : ∀ l k' : Nat → Int, (∀ i : Nat, (i : Int) < σ 1 6 → k' i = if (i : Int) < t then (if (i : Int) < a then σ 8 i else σ 8 (i + n.toNat)) else if (i : Int) < t + n then σ 8 (a.toNat + (i - t.toNat)) else (if (i : Int) - n < a then σ 8 (i - n.toNat) else σ 8 i)) → Q 0 (sa (sa (sa σ 9 l) 8 k') 10 (rnum k' (σ 10) (ho_omin a t).toNat (σ 1 6 - ho_omin a t).toNat))) : mX0_shift [1, a, n, t] σ Q X := by
  simp only [mX0_shift, fX0_shift, zN, zS, zD, zL, zI, zB, zP, zF, zA, zU, zC, zR, zRZ, zRC, zRV, zT, zE, zK, zY, eC, eV, eF, eR, eI, eL, eB, eD, eM, eU, eK, eT, aN, aC, cLt, cLe, cGt, cGe, cEq, cNe, cAnd, cOr, cNot, ho_nid, List.getD_cons_zero, List.getD_cons_succ, List.set_cons_zero, List.set_cons_succ, List.cons_append, List.nil_append, List.take_succ_cons, List.take_zero, Int.reduceToNat, Int.toNat_natCast, nN_0, nN_1, nN_2, nN_3, nN_4, nN_5, nN_6, nN_7, nN_8, nN_9, nN_10, nN_11, nN_12, nN_13, nN_14, nN_15, nN_16, nN_17, nN_18, nN_19, nN_20, nN_21, nN_22, nN_23, nN_24, nN_25, nN_26, nN_27, nN_28, nN_29, nN_30, nN_31, nN_32, nN_33, nN_34, nN_35, nN_36, nN_37, nN_38, nN_39, nN_40, nN_41, nN_42, nN_43, nN_44, nN_45, nN_46, nN_47, nN_48, nN_49, nN_50, nN_51, nN_52, nN_53, nN_54, nR_0_0, nR_0_1, nR_0_2, nR_0_3, nR_0_4, nR_0_5, nR_0_6, nR_0_7, nR_0_8, nR_0_9, nR_0_10, nR_1_0, nR_1_1, nR_1_2, nR_1_3, nR_1_4, nR_2_0, nR_2_1, nR_2_2, nR_2_3, nR_2_4, nR_3_0, nR_3_1, nR_4_2, nR_5_2, nR_6_0, nR_6_1, nR_6_2, nR_7_0, nR_30_2, nR_30_3, nR_30_4, nR_30_6, nR_30_7, nR_30_9, nR_30_10, nR_30_11, nR_30_12, nR_30_13, nR_30_14, nR_30_15, nR_30_16, nR_30_18, nR_30_19, nR_30_20, nR_30_21, nR_30_22, nR_30_23, nR_30_24, nR_30_28, nR_30_29, nR_30_31, ho_oadd, ho_osub]
  refine sp_copyItems (by omega) (by omega) (by omega) (by show _ ≤ (4800 : Int); omega) (by show _ ≤ (4800 : Int); omega) (by decide) (by decide) ?_
  obtain ⟨l1, hl1⟩ : ∃ l1 : Nat → Int, l1 = fun j => if (0 : Int).toNat ≤ j ∧ j < (0 : Int).toNat + n.toNat then σ 8 (a.toNat + (j - (0 : Int).toNat)) else σ 9 j := ⟨_, rfl⟩
  have e1 : cp σ 8 a 9 0 n = sa σ 9 l1 := by rw [hl1]; rfl
  rw [e1]
  simp only [saF (show (1 : Nat) ≠ 9 by decide)]
  rw [wE (x := a + n) (by omega) (by omega), wE (x := σ 1 6 - a) (by omega) (by omega), wE (x := σ 1 6 - a - n) (by omega) (by omega)]
  refine sp_copyItems (by omega) (by omega) (by omega) (by show _ ≤ (4800 : Int); omega) (by show _ ≤ (4800 : Int); omega) (by decide) (by decide) ?_
  obtain ⟨k1, hk1⟩ : ∃ k1 : Nat → Int, k1 = fun j => if a.toNat ≤ j ∧ j < a.toNat + (σ 1 6 - a - n).toNat then σ 8 ((a + n).toNat + (j - a.toNat)) else σ 8 j := ⟨_, rfl⟩
  have e2 : cp (sa σ 9 l1) 8 (a + n) 8 a (σ 1 6 - a - n) = sa (sa σ 9 l1) 8 k1 := by rw [hk1]; rfl
  rw [e2]
  simp only [saF (show (1 : Nat) ≠ 9 by decide), saF (show (1 : Nat) ≠ 8 by decide)]
  rw [wE (x := t + n) (by omega) (by omega), wE (x := σ 1 6 - n) (by omega) (by omega), wE (x := σ 1 6 - n - t) (by omega) (by omega)]
  refine sp_copyItems (by omega) (by omega) (by omega) (by show _ ≤ (4800 : Int); omega) (by show _ ≤ (4800 : Int); omega) (by decide) (by decide) ?_
  obtain ⟨k2, hk2⟩ : ∃ k2 : Nat → Int, k2 = fun j => if (t + n).toNat ≤ j ∧ j < (t + n).toNat + (σ 1 6 - n - t).toNat then k1 (t.toNat + (j - (t + n).toNat)) else k1 j := ⟨_, rfl⟩
  have e3 : cp (sa (sa σ 9 l1) 8 k1) 8 t 8 (t + n) (σ 1 6 - n - t) = sa (sa σ 9 l1) 8 k2 := by
    rw [← sa_sa (g := k1) (h := k2), hk2]; rfl
  rw [e3]
  refine sp_copyItems (by omega) (by omega) (by omega) (by show _ ≤ (4800 : Int); omega) (by show _ ≤ (4800 : Int); omega) (by decide) (by decide) ?_
  obtain ⟨k3, hk3⟩ : ∃ k3 : Nat → Int, k3 = fun j => if t.toNat ≤ j ∧ j < t.toNat + n.toNat then l1 ((0 : Int).toNat + (j - t.toNat)) else k2 j := ⟨_, rfl⟩
  have e4 : cp (sa (sa σ 9 l1) 8 k2) 9 0 8 t n = sa (sa σ 9 l1) 8 k3 := by
    rw [← sa_sa (g := k2) (h := k3), hk3]; rfl
  rw [e4]
  have hm : ho_omin a t = a ∧ a ≤ t ∨ ho_omin a t = t ∧ t < a := by
    unfold ho_omin
    by_cases q : t < a
    · rw [if_pos q]; omega
    · rw [if_neg q]; omega
  have e5 : ∀ i : Nat, (i : Int) < σ 1 6 → k3 i = if (i : Int) < t then (if (i : Int) < a then σ 8 i else σ 8 (i + n.toNat)) else if (i : Int) < t + n then σ 8 (a.toNat + (i - t.toNat)) else (if (i : Int) - n < a then σ 8 (i - n.toNat) else σ 8 i) := by
    intro i hi
    have f1 : ∀ j : Nat, (j : Int) < σ 1 6 - n → k1 j = if (j : Int) < a then σ 8 j else σ 8 (j + n.toNat) := by
      intro j hj
      rw [hk1]
      dsimp only
      by_cases q : (j : Int) < a
      · rw [if_pos q, if_neg (by omega)]
      · rw [if_neg q, if_pos (by omega), show (a + n).toNat + (j - a.toNat) = j + n.toNat by omega]
    rw [hk3]
    dsimp only
    by_cases q1 : (i : Int) < t
    · rw [if_neg (by omega), if_pos q1, hk2]
      dsimp only
      rw [if_neg (by omega), f1 i (by omega)]
    · rw [if_neg q1]
      by_cases q2 : (i : Int) < t + n
      · rw [if_pos (by omega), if_pos q2, hl1]
        dsimp only
        rw [if_pos (by omega)]
        congr 1
        omega
      · rw [if_neg (by omega), if_neg q2, hk2]
        dsimp only
        rw [if_pos (by omega), f1 _ (by omega), show t.toNat + (i - (t + n).toNat) = i - n.toNat by omega]
        by_cases q3 : (i : Int) - n < a
        · rw [if_pos q3, if_pos (by omega)]
        · rw [if_neg q3, if_neg (by omega), show i - n.toNat + n.toNat = i by omega]
  refine sp_renumber (by omega) (by show ho_omin a t ≤ σ 1 6; omega) (by show σ 1 6 ≤ 4800; exact h3) (fun i hi1 hi2 => ?_) ?_
  · have hi2 : (i : Int) < σ 1 6 := hi2
    show 0 ≤ k3 i ∧ k3 i < 4812
    rw [e5 i hi2]
    split
    · split
      · exact hk _ (by omega)
      · exact hk _ (by omega)
    · split
      · exact hk _ (by omega)
      · split
        · exact hk _ (by omega)
        · exact hk _ (by omega)
  · exact h l1 k3 e5
theorem sp_showsAny {s f n : Int} {σ : ho_S} {Q : ho_K} {X : ho_X} (hs0 : 0 ≤ s) (hs1 : s < 12) (hf0 : 0 ≤ f) (h1 : 1 ≤ n) (hf1 : f + n ≤ 400) (h0 : (∃ i : Nat, (i : Int) < n ∧ σ 10 (s * 401 + f + i).toNat ≠ -1) → Q 1 σ) (h2 : (∀ i : Nat, (i : Int) < n → σ 10 (s * 401 + f + i).toNat = -1) → Q 0 σ) : mX0_showsAny [1, s, f, n] σ Q X := by
  simp only [mX0_showsAny, fX0_showsAny, zN, zS, zD, zL, zI, zB, zP, zF, zA, zU, zC, zR, zRZ, zRC, zRV, zT, zE, zK, zY, eC, eV, eF, eR, eI, eL, eB, eD, eM, eU, eK, eT, aN, aC, cLt, cLe, cGt, cGe, cEq, cNe, cAnd, cOr, cNot, ho_nid, List.getD_cons_zero, List.getD_cons_succ, List.set_cons_zero, List.set_cons_succ, List.cons_append, List.nil_append, List.take_succ_cons, List.take_zero, Int.reduceToNat, Int.toNat_natCast, nN_0, nN_1, nN_2, nN_3, nN_4, nN_5, nN_6, nN_7, nN_8, nN_9, nN_10, nN_11, nN_12, nN_13, nN_14, nN_15, nN_16, nN_17, nN_18, nN_19, nN_20, nN_21, nN_22, nN_23, nN_24, nN_25, nN_26, nN_27, nN_28, nN_29, nN_30, nN_31, nN_32, nN_33, nN_34, nN_35, nN_36, nN_37, nN_38, nN_39, nN_40, nN_41, nN_42, nN_43, nN_44, nN_45, nN_46, nN_47, nN_48, nN_49, nN_50, nN_51, nN_52, nN_53, nN_54, nR_0_0, nR_0_1, nR_0_2, nR_0_3, nR_0_4, nR_0_5, nR_0_6, nR_0_7, nR_0_8, nR_0_9, nR_0_10, nR_1_0, nR_1_1, nR_1_2, nR_1_3, nR_1_4, nR_2_0, nR_2_1, nR_2_2, nR_2_3, nR_2_4, nR_3_0, nR_3_1, nR_4_2, nR_5_2, nR_6_0, nR_6_1, nR_6_2, nR_7_0, nR_30_2, nR_30_3, nR_30_4, nR_30_6, nR_30_7, nR_30_9, nR_30_10, nR_30_11, nR_30_12, nR_30_13, nR_30_14, nR_30_15, nR_30_16, nR_30_18, nR_30_19, nR_30_20, nR_30_21, nR_30_22, nR_30_23, nR_30_24, nR_30_28, nR_30_29, nR_30_31, n00]
  refine ⟨fun v σ' m => ∃ k : Nat, (k : Int) ≤ n ∧ v = [1, s, f, n, (k : Int)] ∧ m = n.toNat - k ∧ σ' = σ ∧ ∀ i : Nat, i < k → σ 10 (s * 401 + f + i).toNat = -1, ⟨_, 0, by omega, rfl, rfl, rfl, fun i hi => by omega⟩, ?_⟩
  rintro v σ' m ⟨k, hkn, rfl, rfl, rfl, hk⟩
  simp only [zN, zS, zD, zL, zI, zB, zP, zF, zA, zU, zC, zR, zRZ, zRC, zRV, zT, zE, zK, zY, eC, eV, eF, eR, eI, eL, eB, eD, eM, eU, eK, eT, aN, aC, cLt, cLe, cGt, cGe, cEq, cNe, cAnd, cOr, cNot, ho_nid, List.getD_cons_zero, List.getD_cons_succ, List.set_cons_zero, List.set_cons_succ, List.cons_append, List.nil_append, List.take_succ_cons, List.take_zero, Int.reduceToNat, Int.toNat_natCast, nN_0, nN_1, nN_2, nN_3, nN_4, nN_5, nN_6, nN_7, nN_8, nN_9, nN_10, nN_11, nN_12, nN_13, nN_14, nN_15, nN_16, nN_17, nN_18, nN_19, nN_20, nN_21, nN_22, nN_23, nN_24, nN_25, nN_26, nN_27, nN_28, nN_29, nN_30, nN_31, nN_32, nN_33, nN_34, nN_35, nN_36, nN_37, nN_38, nN_39, nN_40, nN_41, nN_42, nN_43, nN_44, nN_45, nN_46, nN_47, nN_48, nN_49, nN_50, nN_51, nN_52, nN_53, nN_54, nR_0_0, nR_0_1, nR_0_2, nR_0_3, nR_0_4, nR_0_5, nR_0_6, nR_0_7, nR_0_8, nR_0_9, nR_0_10, nR_1_0, nR_1_1, nR_1_2, nR_1_3, nR_1_4, nR_2_0, nR_2_1, nR_2_2, nR_2_3, nR_2_4, nR_3_0, nR_3_1, nR_4_2, nR_5_2, nR_6_0, nR_6_1, nR_6_2, nR_7_0, nR_30_2, nR_30_3, nR_30_4, nR_30_6, nR_30_7, nR_30_9, nR_30_10, nR_30_11, nR_30_12, nR_30_13, nR_30_14, nR_30_15, nR_30_16, nR_30_18, nR_30_19, nR_30_20, nR_30_21, nR_30_22, nR_30_23, nR_30_24, nR_30_28, nR_30_29, nR_30_31, sp_placeOfFrame, ho_oadd, ho_osub, ho_omul, true_or, or_true, true_and]
  refine ⟨fun c1 => ?_, fun c1 => h2 (fun i hi => hk i (by omega))⟩
  rw [wE (x := s * 401) (by omega) (by omega), wE (x := f + k) (by omega) (by omega), wE (x := s * 401 + (f + k)) (by omega) (by omega), gi_in (by omega) (by show _ < (4812 : Int); omega)]
  show (σ' 10 (s * 401 + (f + k)).toNat ≠ -1 → _) ∧ (σ' 10 (s * 401 + (f + k)).toNat = -1 → _)
  rw [show s * 401 + (f + (k : Int)) = s * 401 + f + k by omega]
  refine ⟨fun c2 => h0 ⟨k, c1, c2⟩, fun c2 => ⟨_, ?_, k + 1, by omega, ?_, rfl, fun i hi => ?_⟩⟩
  · omega
  · rw [wE (by omega) (by omega)]; simp
  · by_cases q : i = k
    · subst q; exact c2
    · exact hk i (by omega)
theorem sp_mark {c a n : Int} {σ : ho_S} {Q : ho_K} {X : ho_X} (h0 : 0 ≤ a) (h1 : 1 ≤ n) (h2 : a + n ≤ σ 1 6) (h3 : σ 1 6 ≤ 4800) (hk : ∀ i : Nat, (i : Int) < σ 1 6 → 0 ≤ σ 8 i ∧ σ 8 i < 4812) (hinj : inj (σ 8) a.toNat n.toNat)
    (h : ∀ g : Nat → Int, (∀ i : Nat, i < n.toNat → g (σ 8 (a.toNat + i)).toNat = ho_oor (σ 11 (σ 8 (a.toNat + i)).toNat) (ho_oshl 1 c)) → (∀ k, (∀ i : Nat, i < n.toNat → (σ 8 (a.toNat + i)).toNat ≠ k) → g k = σ 11 k) → Q 0 (sa σ 11 g)) : mX0_mark [1, c, a, n] σ Q X := by
  simp only [mX0_mark, fX0_mark, zN, zS, zD, zL, zI, zB, zP, zF, zA, zU, zC, zR, zRZ, zRC, zRV, zT, zE, zK, zY, eC, eV, eF, eR, eI, eL, eB, eD, eM, eU, eK, eT, aN, aC, cLt, cLe, cGt, cGe, cEq, cNe, cAnd, cOr, cNot, ho_nid, List.getD_cons_zero, List.getD_cons_succ, List.set_cons_zero, List.set_cons_succ, List.cons_append, List.nil_append, List.take_succ_cons, List.take_zero, Int.reduceToNat, Int.toNat_natCast, nN_0, nN_1, nN_2, nN_3, nN_4, nN_5, nN_6, nN_7, nN_8, nN_9, nN_10, nN_11, nN_12, nN_13, nN_14, nN_15, nN_16, nN_17, nN_18, nN_19, nN_20, nN_21, nN_22, nN_23, nN_24, nN_25, nN_26, nN_27, nN_28, nN_29, nN_30, nN_31, nN_32, nN_33, nN_34, nN_35, nN_36, nN_37, nN_38, nN_39, nN_40, nN_41, nN_42, nN_43, nN_44, nN_45, nN_46, nN_47, nN_48, nN_49, nN_50, nN_51, nN_52, nN_53, nN_54, nR_0_0, nR_0_1, nR_0_2, nR_0_3, nR_0_4, nR_0_5, nR_0_6, nR_0_7, nR_0_8, nR_0_9, nR_0_10, nR_1_0, nR_1_1, nR_1_2, nR_1_3, nR_1_4, nR_2_0, nR_2_1, nR_2_2, nR_2_3, nR_2_4, nR_3_0, nR_3_1, nR_4_2, nR_5_2, nR_6_0, nR_6_1, nR_6_2, nR_7_0, nR_30_2, nR_30_3, nR_30_4, nR_30_6, nR_30_7, nR_30_9, nR_30_10, nR_30_11, nR_30_12, nR_30_13, nR_30_14, nR_30_15, nR_30_16, nR_30_18, nR_30_19, nR_30_20, nR_30_21, nR_30_22, nR_30_23, nR_30_24, nR_30_28, nR_30_29, nR_30_31]
  refine ⟨fun v σ' m => ∃ k : Nat, (k : Int) ≤ n ∧ v = [1, c, a, n, (k : Int)] ∧ m = n.toNat - k ∧ ∃ g : Nat → Int, σ' = sa σ 11 g ∧ (∀ i : Nat, i < k → g (σ 8 (a.toNat + i)).toNat = ho_oor (σ 11 (σ 8 (a.toNat + i)).toNat) (ho_oshl 1 c)) ∧ (∀ q, (∀ i : Nat, i < k → (σ 8 (a.toNat + i)).toNat ≠ q) → g q = σ 11 q), ⟨_, 0, by omega, rfl, rfl, σ 11, sa_id.symm, fun i hi => by omega, fun q _ => rfl⟩, ?_⟩
  rintro v σ' m ⟨k, hkn, rfl, rfl, g, rfl, hg1, hg2⟩
  simp only [zN, zS, zD, zL, zI, zB, zP, zF, zA, zU, zC, zR, zRZ, zRC, zRV, zT, zE, zK, zY, eC, eV, eF, eR, eI, eL, eB, eD, eM, eU, eK, eT, aN, aC, cLt, cLe, cGt, cGe, cEq, cNe, cAnd, cOr, cNot, ho_nid, List.getD_cons_zero, List.getD_cons_succ, List.set_cons_zero, List.set_cons_succ, List.cons_append, List.nil_append, List.take_succ_cons, List.take_zero, Int.reduceToNat, Int.toNat_natCast, nN_0, nN_1, nN_2, nN_3, nN_4, nN_5, nN_6, nN_7, nN_8, nN_9, nN_10, nN_11, nN_12, nN_13, nN_14, nN_15, nN_16, nN_17, nN_18, nN_19, nN_20, nN_21, nN_22, nN_23, nN_24, nN_25, nN_26, nN_27, nN_28, nN_29, nN_30, nN_31, nN_32, nN_33, nN_34, nN_35, nN_36, nN_37, nN_38, nN_39, nN_40, nN_41, nN_42, nN_43, nN_44, nN_45, nN_46, nN_47, nN_48, nN_49, nN_50, nN_51, nN_52, nN_53, nN_54, nR_0_0, nR_0_1, nR_0_2, nR_0_3, nR_0_4, nR_0_5, nR_0_6, nR_0_7, nR_0_8, nR_0_9, nR_0_10, nR_1_0, nR_1_1, nR_1_2, nR_1_3, nR_1_4, nR_2_0, nR_2_1, nR_2_2, nR_2_3, nR_2_4, nR_3_0, nR_3_1, nR_4_2, nR_5_2, nR_6_0, nR_6_1, nR_6_2, nR_7_0, nR_30_2, nR_30_3, nR_30_4, nR_30_6, nR_30_7, nR_30_9, nR_30_10, nR_30_11, nR_30_12, nR_30_13, nR_30_14, nR_30_15, nR_30_16, nR_30_18, nR_30_19, nR_30_20, nR_30_21, nR_30_22, nR_30_23, nR_30_24, nR_30_28, nR_30_29, nR_30_31, sp_keyAt, sp_item, sp_store, sp_bit, ho_oadd, ho_osub, ho_omul]
  refine ⟨fun c1 => ?_, fun c1 => ?_⟩
  · have hv := hk (a.toNat + k) (by omega)
    have e1 : gi (sa σ 11 g) 8 (ho_w (a + (k : Int))) = σ 8 (a.toNat + k) := by
      rw [wE (by omega) (by omega), gi_in (by omega) (by show _ < (4800 : Int); omega)]
      show σ 8 (a + (k : Int)).toNat = _
      rw [show (a + (k : Int)).toNat = a.toNat + k by omega]
    have e2 : gi (sa σ 11 g) 11 (σ 8 (a.toNat + k)) = σ 11 (σ 8 (a.toNat + k)).toNat := by
      rw [gi_in hv.1 (by show _ < (4812 : Int); omega)]
      show g (σ 8 (a.toNat + k)).toNat = _
      exact hg2 _ (fun i hi q => by have := hinj i k (by omega) (by omega) q; omega)
    rw [e1, e2, si_in hv.1 (by show _ < (4812 : Int); omega)]
    refine ⟨_, ?_, k + 1, by omega, ?_, rfl, fun q => if q = (σ 8 (a.toNat + k)).toNat then ho_oor (σ 11 (σ 8 (a.toNat + k)).toNat) (ho_oshl 1 c) else g q, ?_, fun i hi => ?_, fun q hq => ?_⟩
    · omega
    · rw [wE (by omega) (by omega)]; simp
    · show ho_up (sa σ 11 g) 11 _ _ = _
      rw [sa_up]
    · dsimp only
      by_cases q : i = k
      · subst q; rw [if_pos rfl]
      · rw [if_neg (fun z => q (hinj i k (by omega) (by omega) z))]
        exact hg1 i (by omega)
    · dsimp only
      rw [if_neg (fun z => hq k (by omega) z.symm)]
      exact hg2 q (fun i hi => hq i (by omega))
  · exact h g (fun i hi => hg1 i (by omega)) (fun q hq => hg2 q (fun i hi => hq i (by omega)))
theorem sp_unmark {c : Int} {σ : ho_S} {Q : ho_K} {X : ho_X} (h : Q 0 (sa σ 11 (fun k => if k < 4812 then ho_oand (σ 11 k) (ho_oxor (ho_oshl 1 c) (-1)) else σ 11 k))) : mX0_unmark [1, c] σ Q X := by
  simp only [mX0_unmark, fX0_unmark, zN, zS, zD, zL, zI, zB, zP, zF, zA, zU, zC, zR, zRZ, zRC, zRV, zT, zE, zK, zY, eC, eV, eF, eR, eI, eL, eB, eD, eM, eU, eK, eT, aN, aC, cLt, cLe, cGt, cGe, cEq, cNe, cAnd, cOr, cNot, ho_nid, List.getD_cons_zero, List.getD_cons_succ, List.set_cons_zero, List.set_cons_succ, List.cons_append, List.nil_append, List.take_succ_cons, List.take_zero, Int.reduceToNat, Int.toNat_natCast, nN_0, nN_1, nN_2, nN_3, nN_4, nN_5, nN_6, nN_7, nN_8, nN_9, nN_10, nN_11, nN_12, nN_13, nN_14, nN_15, nN_16, nN_17, nN_18, nN_19, nN_20, nN_21, nN_22, nN_23, nN_24, nN_25, nN_26, nN_27, nN_28, nN_29, nN_30, nN_31, nN_32, nN_33, nN_34, nN_35, nN_36, nN_37, nN_38, nN_39, nN_40, nN_41, nN_42, nN_43, nN_44, nN_45, nN_46, nN_47, nN_48, nN_49, nN_50, nN_51, nN_52, nN_53, nN_54, nR_0_0, nR_0_1, nR_0_2, nR_0_3, nR_0_4, nR_0_5, nR_0_6, nR_0_7, nR_0_8, nR_0_9, nR_0_10, nR_1_0, nR_1_1, nR_1_2, nR_1_3, nR_1_4, nR_2_0, nR_2_1, nR_2_2, nR_2_3, nR_2_4, nR_3_0, nR_3_1, nR_4_2, nR_5_2, nR_6_0, nR_6_1, nR_6_2, nR_7_0, nR_30_2, nR_30_3, nR_30_4, nR_30_6, nR_30_7, nR_30_9, nR_30_10, nR_30_11, nR_30_12, nR_30_13, nR_30_14, nR_30_15, nR_30_16, nR_30_18, nR_30_19, nR_30_20, nR_30_21, nR_30_22, nR_30_23, nR_30_24, nR_30_28, nR_30_29, nR_30_31]
  refine ⟨fun v σ' m => ∃ k : Nat, (k : Int) ≤ 4812 ∧ v = [1, c, (k : Int)] ∧ m = 4812 - k ∧ σ' = sa σ 11 (fun q => if q < k then ho_oand (σ 11 q) (ho_oxor (ho_oshl 1 c) (-1)) else σ 11 q), ⟨_, 0, by omega, rfl, rfl, by rw [show (fun q => if q < 0 then ho_oand (σ 11 q) (ho_oxor (ho_oshl 1 c) (-1)) else σ 11 q) = σ 11 from funext fun q => if_neg (by omega), sa_id]⟩, ?_⟩
  rintro v σ' m ⟨k, hkn, rfl, rfl, rfl⟩
  simp only [zN, zS, zD, zL, zI, zB, zP, zF, zA, zU, zC, zR, zRZ, zRC, zRV, zT, zE, zK, zY, eC, eV, eF, eR, eI, eL, eB, eD, eM, eU, eK, eT, aN, aC, cLt, cLe, cGt, cGe, cEq, cNe, cAnd, cOr, cNot, ho_nid, List.getD_cons_zero, List.getD_cons_succ, List.set_cons_zero, List.set_cons_succ, List.cons_append, List.nil_append, List.take_succ_cons, List.take_zero, Int.reduceToNat, Int.toNat_natCast, nN_0, nN_1, nN_2, nN_3, nN_4, nN_5, nN_6, nN_7, nN_8, nN_9, nN_10, nN_11, nN_12, nN_13, nN_14, nN_15, nN_16, nN_17, nN_18, nN_19, nN_20, nN_21, nN_22, nN_23, nN_24, nN_25, nN_26, nN_27, nN_28, nN_29, nN_30, nN_31, nN_32, nN_33, nN_34, nN_35, nN_36, nN_37, nN_38, nN_39, nN_40, nN_41, nN_42, nN_43, nN_44, nN_45, nN_46, nN_47, nN_48, nN_49, nN_50, nN_51, nN_52, nN_53, nN_54, nR_0_0, nR_0_1, nR_0_2, nR_0_3, nR_0_4, nR_0_5, nR_0_6, nR_0_7, nR_0_8, nR_0_9, nR_0_10, nR_1_0, nR_1_1, nR_1_2, nR_1_3, nR_1_4, nR_2_0, nR_2_1, nR_2_2, nR_2_3, nR_2_4, nR_3_0, nR_3_1, nR_4_2, nR_5_2, nR_6_0, nR_6_1, nR_6_2, nR_7_0, nR_30_2, nR_30_3, nR_30_4, nR_30_6, nR_30_7, nR_30_9, nR_30_10, nR_30_11, nR_30_12, nR_30_13, nR_30_14, nR_30_15, nR_30_16, nR_30_18, nR_30_19, nR_30_20, nR_30_21, nR_30_22, nR_30_23, nR_30_24, nR_30_28, nR_30_29, nR_30_31, sp_bit, saE]
  refine ⟨fun c1 => ⟨by omega, _, ?_, k + 1, by omega, ?_, rfl, ?_⟩, fun c1 => ?_⟩
  · omega
  · rw [wE (by omega) (by omega)]; simp
  · rw [sa_up]
    refine sa_congr fun q => ?_
    by_cases z : q = k
    · subst z; simp
    · rw [if_neg z]
      by_cases z2 : q < k
      · rw [if_pos z2, if_pos (by omega)]
      · rw [if_neg z2, if_neg (by omega)]
  · have hk : k = 4812 := by omega
    subst hk
    exact h
