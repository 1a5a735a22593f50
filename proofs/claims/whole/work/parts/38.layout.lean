-- how a text is laid into rows: both ways by one list
abbrev stp (s : Int) : Prop := s = 46 ∨ s = 44 ∨ s = 59 ∨ s = 58 ∨ s = 33 ∨ s = 63
def cst (T : Nat → Int) (a b i : Nat) : Int :=
  (if pre T b - pre T (i + 1) < pre T i - pre T a then (pre T i - pre T a) - (pre T b - pre T (i + 1)) else (pre T b - pre T (i + 1)) - (pre T i - pre T a)) + (if stp (T (i - 1)) then 0 else 5)
def may (T : Nat → Int) (W : Int) (a b i : Nat) (x : Int × Int) : Prop :=
  T i = 32 ∧ pre T i - pre T a ≤ W ∧ pre T b - pre T (i + 1) ≤ W ∧ (x.1 = -1 ∨ cst T a b i < x.2)
noncomputable def bst (T : Nat → Int) (W : Int) (a b : Nat) : Nat → Int × Int
  | 0 => (-1, 0)
  | k + 1 => @ite (Int × Int) (may T W a b (a + 1 + k) (bst T W a b k)) (Classical.propDecidable _) (((a + 1 + k : Nat) : Int), cst T a b (a + 1 + k)) (bst T W a b k)
noncomputable def spc (T : Nat → Int) (W : Int) (a b : Nat) : Int := (bst T W a b (b - 1 - (a + 1))).1
theorem bst_y {T : Nat → Int} {W : Int} {a b k : Nat} (h : may T W a b (a + 1 + k) (bst T W a b k)) : bst T W a b (k + 1) = (((a + 1 + k : Nat) : Int), cst T a b (a + 1 + k)) := if_pos h
theorem bst_n {T : Nat → Int} {W : Int} {a b k : Nat} (h : ¬ may T W a b (a + 1 + k) (bst T W a b k)) : bst T W a b (k + 1) = bst T W a b k := if_neg h
theorem bst_rg {T : Nat → Int} {W : Int} {a b : Nat} (k : Nat) : (bst T W a b k).1 = -1 ∨ ((a : Int) + 1 ≤ (bst T W a b k).1 ∧ (bst T W a b k).1 < a + 1 + k) := by
  induction k with
  | zero => exact Or.inl rfl
  | succ k ih =>
    by_cases h : may T W a b (a + 1 + k) (bst T W a b k)
    · rw [bst_y h]; dsimp only; omega
    · rw [bst_n h]; omega
theorem spc_rg {T : Nat → Int} {W : Int} {a b : Nat} : spc T W a b = -1 ∨ ((a : Int) + 1 ≤ spc T W a b ∧ spc T W a b + 1 < b) := by
  have := bst_rg (T := T) (W := W) (a := a) (b := b) (b - 1 - (a + 1))
  unfold spc
  omega
noncomputable def prt (T : Nat → Int) (W : Int) (a b : Nat) : List (Nat × Nat) :=
  if W < pre T b - pre T a ∧ spc T W a b ≠ -1 then [(a, (spc T W a b).toNat), ((spc T W a b).toNat + 1, b)] else [(a, b)]
theorem prt_len {T : Nat → Int} {W : Int} {a b : Nat} (h : a ≤ b) : (prt T W a b).length + a ≤ b + 1 := by
  unfold prt
  have := spc_rg (T := T) (W := W) (a := a) (b := b)
  split
  · show 2 + a ≤ b + 1; omega
  · show 1 + a ≤ b + 1; omega
noncomputable def acc (T : Nat → Int) (W : Int) : Nat → Nat × List (Nat × Nat)
  | 0 => (0, [])
  | k + 1 => if T k = 10 then (k + 1, (acc T W k).2 ++ prt T W (acc T W k).1 k) else acc T W k
theorem acc_y {T : Nat → Int} {W : Int} {k : Nat} (h : T k = 10) : acc T W (k + 1) = (k + 1, (acc T W k).2 ++ prt T W (acc T W k).1 k) := if_pos h
theorem acc_n {T : Nat → Int} {W : Int} {k : Nat} (h : T k ≠ 10) : acc T W (k + 1) = acc T W k := if_neg h
theorem acc_rg {T : Nat → Int} {W : Int} (k : Nat) : (acc T W k).1 ≤ k ∧ (acc T W k).2.length ≤ (acc T W k).1 := by
  induction k with
  | zero => exact ⟨Nat.le_refl _, Nat.le_refl _⟩
  | succ k ih =>
    by_cases h : T k = 10
    · rw [acc_y h]
      have := prt_len (T := T) (W := W) ih.1
      dsimp only
      rw [List.length_append]
      omega
    · rw [acc_n h]; omega
noncomputable def rws (T : Nat → Int) (W : Int) (n : Nat) : List (Nat × Nat) := if n = 0 then [] else (acc T W n).2 ++ prt T W (acc T W n).1 n
theorem rws_len {T : Nat → Int} {W : Int} {n : Nat} : (rws T W n).length ≤ n + 1 := by
  unfold rws
  split
  · exact Nat.zero_le _
  · have h1 := acc_rg (T := T) (W := W) n
    have := prt_len (T := T) (W := W) h1.1
    rw [List.length_append]
    omega
def wid (T : Nat → Int) (l : List (Nat × Nat)) : Int := l.foldl (fun m p => ho_omax m (pre T p.2 - pre T p.1)) 0
theorem wid_app {T : Nat → Int} {l : List (Nat × Nat)} {p : Nat × Nat} : wid T (l ++ [p]) = ho_omax (wid T l) (pre T p.2 - pre T p.1) := by
  unfold wid; rw [List.foldl_append]; rfl
def RW (f e : Nat → Int) (l : List (Nat × Nat)) : Prop := ∀ i p, l[i]? = some p → f i = (p.1 : Int) ∧ e i = (p.2 : Int)
theorem RW_nil {f e : Nat → Int} : RW f e [] := fun i p h => by simp at h
theorem RW_app {f e f' e' : Nat → Int} {l : List (Nat × Nat)} {p : Nat × Nat} (h : RW f e l) (h1 : f' l.length = (p.1 : Int)) (h2 : e' l.length = (p.2 : Int)) (h3 : ∀ i, i < l.length → f' i = f i ∧ e' i = e i) : RW f' e' (l ++ [p]) := by
  intro i q hq
  rcases Nat.lt_or_ge i l.length with c | c
  · rw [List.getElem?_append_left c] at hq
    have := h i q hq
    rw [(h3 i c).1, (h3 i c).2]
    exact this
  · rw [List.getElem?_append_right c] at hq
    by_cases z : i - l.length = 0
    · rw [z] at hq
      have e0 : i = l.length := by omega
      simp at hq
      subst hq
      rw [e0]
      exact ⟨h1, h2⟩
    · obtain ⟨w, hw⟩ : ∃ w, i - l.length = w + 1 := ⟨i - l.length - 1, by omega⟩
      rw [hw] at hq
      simp at hq
/-- the layout's cells, while the rows of a text are kept -/
def LY (T : Nat → Int) (n : Nat) (σ : ho_S) (l : List (Nat × Nat)) : Prop := (∀ i, i ≤ n → σ 24 i = pre T i) ∧ σ 6 3 = (l.length : Int) ∧ σ 6 4 = wid T l ∧ RW (σ 22) (σ 23) l
theorem sp_isStop {s : Int} {σ : ho_S} {Q : ho_K} {X : ho_X} : mX6_isStop [s] σ Q X ↔ Q (if stp s then 1 else 0) σ := by
  simp only [mX6_isStop, fX6_isStop, u_eC, u_eV, u_eF, u_eR, u_eI, u_eL, u_eB, u_eD, u_eM, u_eU, u_aN, u_aC, u_eK, u_eT, u_cLt, u_cLe, u_cGt, u_cGe, u_cEq, u_cNe, u_cAnd, u_cOr, u_cNot, u_zN, u_zS, u_zD, u_zL, u_zI, u_zB, u_zP, u_zF, u_zA, u_zU, u_zC, u_zR, u_zRZ, u_zRC, u_zRV, u_zT, u_zE, u_zK, u_zY, ho_nid, List.getD_cons_zero, List.getD_cons_succ, List.set_cons_zero, List.set_cons_succ, List.cons_append, List.nil_append, List.take_succ_cons, List.take_zero, Int.reduceToNat, Int.toNat_natCast, nN_0, nN_1, nN_2, nN_3, nN_4, nN_5, nN_6, nN_7, nN_8, nN_9, nN_10, nN_11, nN_12, nN_13, nN_14, nN_15, nN_16, nN_17, nN_18, nN_19, nN_20, nN_21, nN_22, nN_23, nN_24, nN_25, nN_26, nN_27, nN_28, nN_29, nN_30, nN_31, nN_32, nN_33, nN_34, nN_35, nN_36, nN_37, nN_38, nN_39, nN_40, nN_41, nN_42, nN_43, nN_44, nN_45, nN_46, nN_47, nN_48, nN_49, nN_50, nN_51, nN_52, nN_53, nN_54, nR_0_0, nR_0_1, nR_0_2, nR_0_3, nR_0_4, nR_0_5, nR_0_6, nR_0_7, nR_0_8, nR_0_9, nR_0_10, nR_1_0, nR_1_1, nR_1_2, nR_1_3, nR_1_4, nR_2_0, nR_2_1, nR_2_2, nR_2_3, nR_2_4, nR_3_0, nR_3_1, nR_4_2, nR_5_2, nR_6_0, nR_6_1, nR_6_2, nR_7_0, nR_30_2, nR_30_3, nR_30_4, nR_30_6, nR_30_7, nR_30_9, nR_30_10, nR_30_11, nR_30_12, nR_30_13, nR_30_14, nR_30_15, nR_30_16, nR_30_18, nR_30_19, nR_30_20, nR_30_21, nR_30_22, nR_30_23, nR_30_24, nR_30_28, nR_30_29, nR_30_31]
  unfold stp
  grind
theorem sp_wb {T : Nat → Int} {a b n : Nat} {σ : ho_S} {Q : ho_K} {X : ho_X} (hn : n ≤ 60) (ha : a ≤ n) (hb : b ≤ n) (hw : ∀ i, i ≤ n → σ 24 i = pre T i) : mX1_widthBetween [6, (a : Int), (b : Int)] σ Q X ↔ Q (pre T b - pre T a) σ := by
  simp only [mX1_widthBetween, fX1_widthBetween, u_eC, u_eV, u_eF, u_eR, u_eI, u_eL, u_eB, u_eD, u_eM, u_eU, u_aN, u_aC, u_eK, u_eT, u_cLt, u_cLe, u_cGt, u_cGe, u_cEq, u_cNe, u_cAnd, u_cOr, u_cNot, u_zN, u_zS, u_zD, u_zL, u_zI, u_zB, u_zP, u_zF, u_zA, u_zU, u_zC, u_zR, u_zRZ, u_zRC, u_zRV, u_zT, u_zE, u_zK, u_zY, ho_nid, List.getD_cons_zero, List.getD_cons_succ, List.set_cons_zero, List.set_cons_succ, List.cons_append, List.nil_append, List.take_succ_cons, List.take_zero, Int.reduceToNat, Int.toNat_natCast, nN_0, nN_1, nN_2, nN_3, nN_4, nN_5, nN_6, nN_7, nN_8, nN_9, nN_10, nN_11, nN_12, nN_13, nN_14, nN_15, nN_16, nN_17, nN_18, nN_19, nN_20, nN_21, nN_22, nN_23, nN_24, nN_25, nN_26, nN_27, nN_28, nN_29, nN_30, nN_31, nN_32, nN_33, nN_34, nN_35, nN_36, nN_37, nN_38, nN_39, nN_40, nN_41, nN_42, nN_43, nN_44, nN_45, nN_46, nN_47, nN_48, nN_49, nN_50, nN_51, nN_52, nN_53, nN_54, nR_0_0, nR_0_1, nR_0_2, nR_0_3, nR_0_4, nR_0_5, nR_0_6, nR_0_7, nR_0_8, nR_0_9, nR_0_10, nR_1_0, nR_1_1, nR_1_2, nR_1_3, nR_1_4, nR_2_0, nR_2_1, nR_2_2, nR_2_3, nR_2_4, nR_3_0, nR_3_1, nR_4_2, nR_5_2, nR_6_0, nR_6_1, nR_6_2, nR_7_0, nR_30_2, nR_30_3, nR_30_4, nR_30_6, nR_30_7, nR_30_9, nR_30_10, nR_30_11, nR_30_12, nR_30_13, nR_30_14, nR_30_15, nR_30_16, nR_30_18, nR_30_19, nR_30_20, nR_30_21, nR_30_22, nR_30_23, nR_30_24, nR_30_28, nR_30_29, nR_30_31, sp_item]
  have h1 := pre_range T a
  have h2 := pre_range T b
  rw [gi24 (by omega), gi24 (by omega), hw a ha, hw b hb, wsu (by omega) (by omega)]
theorem sp_keepRow {T : Nat → Int} {a b n : Nat} {l : List (Nat × Nat)} {σ : ho_S} {Q : ho_K} {X : ho_X} (hn : n ≤ 60) (ha : a ≤ n) (hb : b ≤ n) (hl : l.length < 61) (hL : LY T n σ l) (h : ∀ σ', sm pLy σ σ' → LY T n σ' (l ++ [(a, b)]) → Q 0 σ') : mX1_keepRow [6, (a : Int), (b : Int)] σ Q X := by
  have q1 : l.length < 100000 := by omega
  obtain ⟨h1, h2, h3, h4⟩ := hL
  simp only [mX1_keepRow, fX1_keepRow, u_eC, u_eV, u_eF, u_eR, u_eI, u_eL, u_eB, u_eD, u_eM, u_eU, u_aN, u_aC, u_eK, u_eT, u_cLt, u_cLe, u_cGt, u_cGe, u_cEq, u_cNe, u_cAnd, u_cOr, u_cNot, u_zN, u_zS, u_zD, u_zL, u_zI, u_zB, u_zP, u_zF, u_zA, u_zU, u_zC, u_zR, u_zRZ, u_zRC, u_zRV, u_zT, u_zE, u_zK, u_zY, ho_nid, List.getD_cons_zero, List.getD_cons_succ, List.set_cons_zero, List.set_cons_succ, List.cons_append, List.nil_append, List.take_succ_cons, List.take_zero, Int.reduceToNat, Int.toNat_natCast, nN_0, nN_1, nN_2, nN_3, nN_4, nN_5, nN_6, nN_7, nN_8, nN_9, nN_10, nN_11, nN_12, nN_13, nN_14, nN_15, nN_16, nN_17, nN_18, nN_19, nN_20, nN_21, nN_22, nN_23, nN_24, nN_25, nN_26, nN_27, nN_28, nN_29, nN_30, nN_31, nN_32, nN_33, nN_34, nN_35, nN_36, nN_37, nN_38, nN_39, nN_40, nN_41, nN_42, nN_43, nN_44, nN_45, nN_46, nN_47, nN_48, nN_49, nN_50, nN_51, nN_52, nN_53, nN_54, nR_0_0, nR_0_1, nR_0_2, nR_0_3, nR_0_4, nR_0_5, nR_0_6, nR_0_7, nR_0_8, nR_0_9, nR_0_10, nR_1_0, nR_1_1, nR_1_2, nR_1_3, nR_1_4, nR_2_0, nR_2_1, nR_2_2, nR_2_3, nR_2_4, nR_3_0, nR_3_1, nR_4_2, nR_5_2, nR_6_0, nR_6_1, nR_6_2, nR_7_0, nR_30_2, nR_30_3, nR_30_4, nR_30_6, nR_30_7, nR_30_9, nR_30_10, nR_30_11, nR_30_12, nR_30_13, nR_30_14, nR_30_15, nR_30_16, nR_30_18, nR_30_19, nR_30_20, nR_30_21, nR_30_22, nR_30_23, nR_30_24, nR_30_28, nR_30_29, nR_30_31, sp_store]
  simp only [h2, si22 hl, si23 hl, oinc q1, saF, saE, ho_upF, ho_upE, ne_eq, not_false_eq_true, Nat.reduceEqDiff]
  refine (sp_wb (T := T) (n := n) hn ha hb ?_).mpr ?_
  · exact fun i hi => h1 i hi
  refine h _ (sm_up (sm_up (sm_up (sm_up sm_rf rfl) rfl) rfl) rfl) ⟨fun i hi => h1 i hi, ?_, ?_, ?_⟩
  · rw [ho_upJ (show (3 : Nat) ≠ 4 by decide), ho_upE, List.length_append]; rfl
  · rw [wid_app, ← h3]
    exact ho_upE
  · refine RW_app h4 ?_ ?_ (fun i hi => ⟨?_, ?_⟩)
    · show ho_up σ 22 l.length (a : Int) 22 l.length = _
      exact ho_upE
    · show ho_up (ho_up σ 22 l.length (a : Int)) 23 l.length (b : Int) 23 l.length = _
      exact ho_upE
    · show ho_up σ 22 l.length (a : Int) 22 i = _
      exact ho_upJ (Nat.ne_of_lt hi)
    · show ho_up (ho_up σ 22 l.length (a : Int)) 23 l.length (b : Int) 23 i = _
      exact ho_upJ (Nat.ne_of_lt hi)
theorem sp_bestSpace {T : Nat → Int} {W : Int} {t a b n : Nat} {σ : ho_S} {Q : ho_K} {X : ho_X} (ht : t < 80) (hT : TXT σ t n T) (hab : a ≤ b) (hb : b ≤ n) (hw : ∀ i, i ≤ n → σ 24 i = pre T i) (h : Q (spc T W a b) σ) : mX1_bestSpace [6, 3, (t : Int), (a : Int), (b : Int), W] σ Q X := by
  have hn := hT.2.1
  simp only [mX1_bestSpace, fX1_bestSpace, u_eC, u_eV, u_eF, u_eR, u_eI, u_eL, u_eB, u_eD, u_eM, u_eU, u_aN, u_aC, u_eK, u_eT, u_cLt, u_cLe, u_cGt, u_cGe, u_cEq, u_cNe, u_cAnd, u_cOr, u_cNot, u_zN, u_zS, u_zD, u_zL, u_zI, u_zB, u_zP, u_zF, u_zA, u_zU, u_zC, u_zR, u_zRZ, u_zRC, u_zRV, u_zT, u_zE, u_zK, u_zY, ho_nid, List.getD_cons_zero, List.getD_cons_succ, List.set_cons_zero, List.set_cons_succ, List.cons_append, List.nil_append, List.take_succ_cons, List.take_zero, Int.reduceToNat, Int.toNat_natCast, nN_0, nN_1, nN_2, nN_3, nN_4, nN_5, nN_6, nN_7, nN_8, nN_9, nN_10, nN_11, nN_12, nN_13, nN_14, nN_15, nN_16, nN_17, nN_18, nN_19, nN_20, nN_21, nN_22, nN_23, nN_24, nN_25, nN_26, nN_27, nN_28, nN_29, nN_30, nN_31, nN_32, nN_33, nN_34, nN_35, nN_36, nN_37, nN_38, nN_39, nN_40, nN_41, nN_42, nN_43, nN_44, nN_45, nN_46, nN_47, nN_48, nN_49, nN_50, nN_51, nN_52, nN_53, nN_54, nR_0_0, nR_0_1, nR_0_2, nR_0_3, nR_0_4, nR_0_5, nR_0_6, nR_0_7, nR_0_8, nR_0_9, nR_0_10, nR_1_0, nR_1_1, nR_1_2, nR_1_3, nR_1_4, nR_2_0, nR_2_1, nR_2_2, nR_2_3, nR_2_4, nR_3_0, nR_3_1, nR_4_2, nR_5_2, nR_6_0, nR_6_1, nR_6_2, nR_7_0, nR_30_2, nR_30_3, nR_30_4, nR_30_6, nR_30_7, nR_30_9, nR_30_10, nR_30_11, nR_30_12, nR_30_13, nR_30_14, nR_30_15, nR_30_16, nR_30_18, nR_30_19, nR_30_20, nR_30_21, nR_30_22, nR_30_23, nR_30_24, nR_30_28, nR_30_29, nR_30_31]
  refine zW_rule (fun v σ' m => ∃ k : Nat, k ≤ b - 1 - (a + 1) ∧ v = [6, 3, (t : Int), (a : Int), (b : Int), W, (bst T W a b k).1, (bst T W a b k).2, ((a + 1 + k : Nat) : Int)] ∧ m = b - 1 - (a + 1) - k ∧ σ' = σ) _ ⟨0, by omega, ?_, rfl, rfl⟩ ?_
  · rw [oinc (by omega)]; rfl
  rintro v σ' m ⟨k, hk, rfl, rfl, rfl⟩ KK KE hKK hKE
  simp only [u_eC, u_eV, u_eF, u_eR, u_eI, u_eL, u_eB, u_eD, u_eM, u_eU, u_aN, u_aC, u_eK, u_eT, u_cLt, u_cLe, u_cGt, u_cGe, u_cEq, u_cNe, u_cAnd, u_cOr, u_cNot, u_zN, u_zS, u_zD, u_zL, u_zI, u_zB, u_zP, u_zF, u_zA, u_zU, u_zC, u_zR, u_zRZ, u_zRC, u_zRV, u_zT, u_zE, u_zK, u_zY, ho_nid, List.getD_cons_zero, List.getD_cons_succ, List.set_cons_zero, List.set_cons_succ, List.cons_append, List.nil_append, List.take_succ_cons, List.take_zero, Int.reduceToNat, Int.toNat_natCast, nN_0, nN_1, nN_2, nN_3, nN_4, nN_5, nN_6, nN_7, nN_8, nN_9, nN_10, nN_11, nN_12, nN_13, nN_14, nN_15, nN_16, nN_17, nN_18, nN_19, nN_20, nN_21, nN_22, nN_23, nN_24, nN_25, nN_26, nN_27, nN_28, nN_29, nN_30, nN_31, nN_32, nN_33, nN_34, nN_35, nN_36, nN_37, nN_38, nN_39, nN_40, nN_41, nN_42, nN_43, nN_44, nN_45, nN_46, nN_47, nN_48, nN_49, nN_50, nN_51, nN_52, nN_53, nN_54, nR_0_0, nR_0_1, nR_0_2, nR_0_3, nR_0_4, nR_0_5, nR_0_6, nR_0_7, nR_0_8, nR_0_9, nR_0_10, nR_1_0, nR_1_1, nR_1_2, nR_1_3, nR_1_4, nR_2_0, nR_2_1, nR_2_2, nR_2_3, nR_2_4, nR_3_0, nR_3_1, nR_4_2, nR_5_2, nR_6_0, nR_6_1, nR_6_2, nR_7_0, nR_30_2, nR_30_3, nR_30_4, nR_30_6, nR_30_7, nR_30_9, nR_30_10, nR_30_11, nR_30_12, nR_30_13, nR_30_14, nR_30_15, nR_30_16, nR_30_18, nR_30_19, nR_30_20, nR_30_21, nR_30_22, nR_30_23, nR_30_24, nR_30_28, nR_30_29, nR_30_31, (show ho_osub (b : Int) 1 = (b : Int) - 1 from wsu (by omega) (by omega)), (show ho_osub ((a + 1 + k : Nat) : Int) 1 = ((a + k : Nat) : Int) from by rw [show a + 1 + k = a + k + 1 by omega]; exact odec (by omega)), (show ho_oadd ((a + 1 + k : Nat) : Int) 1 = ((a + 1 + k + 1 : Nat) : Int) from oinc (by omega)), (show ho_w (((a + 1 + k : Nat) : Int) + 1) = ((a + 1 + (k + 1) : Nat) : Int) from inc (by omega)), sp_signT ht hT]
  refine ⟨fun c1 => ?_, fun c1 => hKE _ ?_⟩
  · have nx : ∀ x y : Int, bst T W a b (k + 1) = (x, y) → KK [6, 3, (t : Int), (a : Int), (b : Int), W, x, y, ((a + 1 + (k + 1) : Nat) : Int)] σ' := fun x y e => hKK _ _ (b - 1 - (a + 1) - (k + 1)) (by omega) ⟨k + 1, by omega, by rw [e], rfl, rfl⟩
    have hP : may T W a b (a + 1 + k) (bst T W a b k) → KK [6, 3, (t : Int), (a : Int), (b : Int), W, ((a + 1 + k : Nat) : Int), cst T a b (a + 1 + k), ((a + 1 + (k + 1) : Nat) : Int)] σ' := fun z => nx _ _ (bst_y z)
    have hN : ¬ may T W a b (a + 1 + k) (bst T W a b k) → KK [6, 3, (t : Int), (a : Int), (b : Int), W, (bst T W a b k).1, (bst T W a b k).2, ((a + 1 + (k + 1) : Nat) : Int)] σ' := fun z => nx _ _ (bst_n z)
    refine ⟨fun c2 => ?_, fun c2 => hN (fun z => c2 z.1)⟩
    refine (sp_wb (T := T) (n := n) hn (by omega) (by omega) hw).mpr ?_
    refine (sp_wb (T := T) (n := n) hn (by omega) (by omega) hw).mpr ?_
    simp only [sp_signT ht hT, sp_isStop, ite01, ite01e]
    have hl := pre_diff T (show a ≤ a + 1 + k by omega)
    have hr := pre_diff T (show a + 1 + k + 1 ≤ b by omega)
    have hc : ∀ z : Int, (z = 0 ∨ z = 5) → ho_oadd (ho_oabs (ho_osub (pre T (a + 1 + k) - pre T a) (pre T b - pre T (a + 1 + k + 1)))) z = (if pre T b - pre T (a + 1 + k + 1) < pre T (a + 1 + k) - pre T a then (pre T (a + 1 + k) - pre T a) - (pre T b - pre T (a + 1 + k + 1)) else (pre T b - pre T (a + 1 + k + 1)) - (pre T (a + 1 + k) - pre T a)) + z := by
      intro z hz
      rw [wsu (by omega) (by omega)]
      unfold ho_oabs
      by_cases q : pre T b - pre T (a + 1 + k + 1) < pre T (a + 1 + k) - pre T a
      · rw [if_pos (by omega), if_pos q, wad (by omega) (by omega)]
      · rw [if_neg q]
        by_cases q2 : 0 ≤ pre T (a + 1 + k) - pre T a - (pre T b - pre T (a + 1 + k + 1))
        · rw [if_pos q2, wad (by omega) (by omega)]; omega
        · rw [if_neg q2, wE (x := -(pre T (a + 1 + k) - pre T a - (pre T b - pre T (a + 1 + k + 1)))) (by omega) (by omega), wad (by omega) (by omega)]; omega
    rw [hc 0 (Or.inl rfl), hc 5 (Or.inr rfl)]
    clear hc
    have fin : ∀ z : Int, z = (if stp (T (a + k)) then 0 else 5) → ∀ y : Int, y = (if pre T b - pre T (a + 1 + k + 1) < pre T (a + 1 + k) - pre T a then (pre T (a + 1 + k) - pre T a) - (pre T b - pre T (a + 1 + k + 1)) else (pre T b - pre T (a + 1 + k + 1)) - (pre T (a + 1 + k) - pre T a)) + z → y = cst T a b (a + 1 + k) := by
      intro z hz y hy
      rw [hy, hz]
      unfold cst
      rw [show a + 1 + k - 1 = a + k by omega]
    refine ⟨fun s => ?_, fun s => ?_⟩
    · rw [fin 0 (by rw [if_pos s]) _ rfl]
      clear fin
      refine ⟨fun l => ⟨fun r => ⟨fun e => hP ⟨c2, l, r, Or.inl e⟩, fun e => ⟨fun q => hP ⟨c2, l, r, Or.inr q⟩, fun q => hN ?_⟩⟩, fun r => hN ?_⟩, fun l => hN ?_⟩
      · rintro ⟨_, _, _, z | z⟩
        · exact e z
        · exact Int.not_lt.mpr q z
      · rintro ⟨_, _, z, _⟩
        exact Int.not_lt.mpr z r
      · rintro ⟨_, z, _, _⟩
        exact Int.not_lt.mpr z l
    · rw [fin 5 (by rw [if_neg s]) _ rfl]
      clear fin
      refine ⟨fun l => ⟨fun r => ⟨fun e => hP ⟨c2, l, r, Or.inl e⟩, fun e => ⟨fun q => hP ⟨c2, l, r, Or.inr q⟩, fun q => hN ?_⟩⟩, fun r => hN ?_⟩, fun l => hN ?_⟩
      · rintro ⟨_, _, _, z | z⟩
        · exact e z
        · exact Int.not_lt.mpr q z
      · rintro ⟨_, _, z, _⟩
        exact Int.not_lt.mpr z r
      · rintro ⟨_, z, _, _⟩
        exact Int.not_lt.mpr z l
  · have : k = b - 1 - (a + 1) := by omega
    subst this
    exact h
theorem sp_dividePart {T : Nat → Int} {W : Int} {t a b n : Nat} {l : List (Nat × Nat)} {σ : ho_S} {Q : ho_K} {X : ho_X} (ht : t < 80) (hT : TXT σ t n T) (hab : a ≤ b) (hb : b ≤ n) (hl : l.length + (prt T W a b).length ≤ 61) (hL : LY T n σ l) (h : ∀ σ', sm pLy σ σ' → LY T n σ' (l ++ prt T W a b) → Q 0 σ') : mX1_dividePart [6, 3, (t : Int), (a : Int), (b : Int), W] σ Q X := by
  have hn := hT.2.1
  simp only [mX1_dividePart, fX1_dividePart, u_eC, u_eV, u_eF, u_eR, u_eI, u_eL, u_eB, u_eD, u_eM, u_eU, u_aN, u_aC, u_eK, u_eT, u_cLt, u_cLe, u_cGt, u_cGe, u_cEq, u_cNe, u_cAnd, u_cOr, u_cNot, u_zN, u_zS, u_zD, u_zL, u_zI, u_zB, u_zP, u_zF, u_zA, u_zU, u_zC, u_zR, u_zRZ, u_zRC, u_zRV, u_zT, u_zE, u_zK, u_zY, ho_nid, List.getD_cons_zero, List.getD_cons_succ, List.set_cons_zero, List.set_cons_succ, List.cons_append, List.nil_append, List.take_succ_cons, List.take_zero, Int.reduceToNat, Int.toNat_natCast, nN_0, nN_1, nN_2, nN_3, nN_4, nN_5, nN_6, nN_7, nN_8, nN_9, nN_10, nN_11, nN_12, nN_13, nN_14, nN_15, nN_16, nN_17, nN_18, nN_19, nN_20, nN_21, nN_22, nN_23, nN_24, nN_25, nN_26, nN_27, nN_28, nN_29, nN_30, nN_31, nN_32, nN_33, nN_34, nN_35, nN_36, nN_37, nN_38, nN_39, nN_40, nN_41, nN_42, nN_43, nN_44, nN_45, nN_46, nN_47, nN_48, nN_49, nN_50, nN_51, nN_52, nN_53, nN_54, nR_0_0, nR_0_1, nR_0_2, nR_0_3, nR_0_4, nR_0_5, nR_0_6, nR_0_7, nR_0_8, nR_0_9, nR_0_10, nR_1_0, nR_1_1, nR_1_2, nR_1_3, nR_1_4, nR_2_0, nR_2_1, nR_2_2, nR_2_3, nR_2_4, nR_3_0, nR_3_1, nR_4_2, nR_5_2, nR_6_0, nR_6_1, nR_6_2, nR_7_0, nR_30_2, nR_30_3, nR_30_4, nR_30_6, nR_30_7, nR_30_9, nR_30_10, nR_30_11, nR_30_12, nR_30_13, nR_30_14, nR_30_15, nR_30_16, nR_30_18, nR_30_19, nR_30_20, nR_30_21, nR_30_22, nR_30_23, nR_30_24, nR_30_28, nR_30_29, nR_30_31]
  refine (sp_wb (T := T) (n := n) hn (by omega) (by omega) hL.1).mpr ?_
  have one : prt T W a b = [(a, b)] → mX1_keepRow [6, (a : Int), (b : Int)] σ (fun _ σ => Q 0 σ) X := by
    intro e
    rw [e] at hl h
    exact sp_keepRow hn (by omega) hb (by simp at hl; omega) hL h
  refine ⟨fun c1 => ?_, fun c1 => ⟨fun _ => one (if_neg (fun z => Int.not_lt.mpr c1 z.1)), fun z => absurd rfl z⟩⟩
  refine sp_bestSpace ht hT hab hb hL.1 ⟨fun c2 => one (if_neg (fun z => z.2 c2)), fun c2 => ?_⟩
  have rg := spc_rg (T := T) (W := W) (a := a) (b := b)
  obtain ⟨s, hs⟩ : ∃ s : Nat, spc T W a b = (s : Int) := ⟨(spc T W a b).toNat, by omega⟩
  have e : prt T W a b = [(a, s), (s + 1, b)] := by
    unfold prt
    rw [if_pos ⟨c1, c2⟩, hs]
    rfl
  rw [e] at hl h
  rw [hs] at rg ⊢
  have hl2 : l.length + 2 ≤ 61 := hl
  rw [oinc (by omega)]
  refine sp_keepRow hn (by omega) (by omega) (by omega) hL (fun σ1 s1 L1 => ?_)
  refine sp_keepRow hn (by omega) (by omega) (by rw [List.length_append]; simp; omega) L1 (fun σ2 s2 L2 => ?_)
  refine h σ2 (sm_tr s1 s2) ?_
  rw [List.append_assoc] at L2
  exact L2
theorem sp_measure {T : Nat → Int} {t n : Nat} {σ : ho_S} {Q : ho_K} {X : ho_X} (ht : t < 80) (hT : TXT σ t n T) (h : ∀ σ', sm p24 σ σ' → (∀ i, i ≤ n → σ' 24 i = pre T i) → Q 0 σ') : mX1_measure [6, 3, (t : Int)] σ Q X := by
  have hn := hT.2.1
  simp only [mX1_measure, fX1_measure, u_eC, u_eV, u_eF, u_eR, u_eI, u_eL, u_eB, u_eD, u_eM, u_eU, u_aN, u_aC, u_eK, u_eT, u_cLt, u_cLe, u_cGt, u_cGe, u_cEq, u_cNe, u_cAnd, u_cOr, u_cNot, u_zN, u_zS, u_zD, u_zL, u_zI, u_zB, u_zP, u_zF, u_zA, u_zU, u_zC, u_zR, u_zRZ, u_zRC, u_zRV, u_zT, u_zE, u_zK, u_zY, ho_nid, List.getD_cons_zero, List.getD_cons_succ, List.set_cons_zero, List.set_cons_succ, List.cons_append, List.nil_append, List.take_succ_cons, List.take_zero, Int.reduceToNat, Int.toNat_natCast, nN_0, nN_1, nN_2, nN_3, nN_4, nN_5, nN_6, nN_7, nN_8, nN_9, nN_10, nN_11, nN_12, nN_13, nN_14, nN_15, nN_16, nN_17, nN_18, nN_19, nN_20, nN_21, nN_22, nN_23, nN_24, nN_25, nN_26, nN_27, nN_28, nN_29, nN_30, nN_31, nN_32, nN_33, nN_34, nN_35, nN_36, nN_37, nN_38, nN_39, nN_40, nN_41, nN_42, nN_43, nN_44, nN_45, nN_46, nN_47, nN_48, nN_49, nN_50, nN_51, nN_52, nN_53, nN_54, nR_0_0, nR_0_1, nR_0_2, nR_0_3, nR_0_4, nR_0_5, nR_0_6, nR_0_7, nR_0_8, nR_0_9, nR_0_10, nR_1_0, nR_1_1, nR_1_2, nR_1_3, nR_1_4, nR_2_0, nR_2_1, nR_2_2, nR_2_3, nR_2_4, nR_3_0, nR_3_1, nR_4_2, nR_5_2, nR_6_0, nR_6_1, nR_6_2, nR_7_0, nR_30_2, nR_30_3, nR_30_4, nR_30_6, nR_30_7, nR_30_9, nR_30_10, nR_30_11, nR_30_12, nR_30_13, nR_30_14, nR_30_15, nR_30_16, nR_30_18, nR_30_19, nR_30_20, nR_30_21, nR_30_22, nR_30_23, nR_30_24, nR_30_28, nR_30_29, nR_30_31]
  refine zW_rule (fun v σ' m => ∃ k : Nat, k ≤ n ∧ v = [6, 3, (t : Int), pre T k, (k : Int)] ∧ m = n - k ∧ sm p24 σ σ' ∧ ∀ i, i < k → σ' 24 i = pre T i) _ ⟨0, by omega, rfl, rfl, sm_rf, fun i hi => by omega⟩ ?_
  rintro v σ' m ⟨k, hk, rfl, rfl, hs, hf⟩ KK KE hKK hKE
  have hT' := TXT_sm hT hs (fun _ => rfl) (fun _ => rfl)
  simp only [u_eC, u_eV, u_eF, u_eR, u_eI, u_eL, u_eB, u_eD, u_eM, u_eU, u_aN, u_aC, u_eK, u_eT, u_cLt, u_cLe, u_cGt, u_cGe, u_cEq, u_cNe, u_cAnd, u_cOr, u_cNot, u_zN, u_zS, u_zD, u_zL, u_zI, u_zB, u_zP, u_zF, u_zA, u_zU, u_zC, u_zR, u_zRZ, u_zRC, u_zRV, u_zT, u_zE, u_zK, u_zY, ho_nid, List.getD_cons_zero, List.getD_cons_succ, List.set_cons_zero, List.set_cons_succ, List.cons_append, List.nil_append, List.take_succ_cons, List.take_zero, Int.reduceToNat, Int.toNat_natCast, nN_0, nN_1, nN_2, nN_3, nN_4, nN_5, nN_6, nN_7, nN_8, nN_9, nN_10, nN_11, nN_12, nN_13, nN_14, nN_15, nN_16, nN_17, nN_18, nN_19, nN_20, nN_21, nN_22, nN_23, nN_24, nN_25, nN_26, nN_27, nN_28, nN_29, nN_30, nN_31, nN_32, nN_33, nN_34, nN_35, nN_36, nN_37, nN_38, nN_39, nN_40, nN_41, nN_42, nN_43, nN_44, nN_45, nN_46, nN_47, nN_48, nN_49, nN_50, nN_51, nN_52, nN_53, nN_54, nR_0_0, nR_0_1, nR_0_2, nR_0_3, nR_0_4, nR_0_5, nR_0_6, nR_0_7, nR_0_8, nR_0_9, nR_0_10, nR_1_0, nR_1_1, nR_1_2, nR_1_3, nR_1_4, nR_2_0, nR_2_1, nR_2_2, nR_2_3, nR_2_4, nR_3_0, nR_3_1, nR_4_2, nR_5_2, nR_6_0, nR_6_1, nR_6_2, nR_7_0, nR_30_2, nR_30_3, nR_30_4, nR_30_6, nR_30_7, nR_30_9, nR_30_10, nR_30_11, nR_30_12, nR_30_13, nR_30_14, nR_30_15, nR_30_16, nR_30_18, nR_30_19, nR_30_20, nR_30_21, nR_30_22, nR_30_23, nR_30_24, nR_30_28, nR_30_29, nR_30_31, sp_sizeT ht hT', sp_store]
  rw [si24 (by omega)]
  have up : sm p24 σ (ho_up σ' 24 k (pre T k)) := sm_up hs rfl
  have uf : ∀ i, i < k + 1 → ho_up σ' 24 k (pre T k) 24 i = pre T i := by
    intro i hi
    by_cases q : i = k
    · subst q; exact ho_upE
    · rw [ho_upJ q]; exact hf i (by omega)
  have hT2 := TXT_sm hT up (fun _ => rfl) (fun _ => rfl)
  simp only [sp_signT ht hT2, sp_signWidth]
  have h1 := pre_range T k
  have h2 := sw_range (T k)
  rw [(show ho_oadd (pre T k) (sw (T k)) = pre T (k + 1) from wad (by omega) (by omega)), inc (by omega)]
  refine ⟨fun c1 => hKK _ _ (n - (k + 1)) (by omega) ⟨k + 1, by omega, rfl, rfl, up, uf⟩, fun c1 => hKE _ ?_⟩
  have hkn : k = n := by omega
  subst hkn
  simp only [u_eC, u_eV, u_eF, u_eR, u_eI, u_eL, u_eB, u_eD, u_eM, u_eU, u_aN, u_aC, u_eK, u_eT, u_cLt, u_cLe, u_cGt, u_cGe, u_cEq, u_cNe, u_cAnd, u_cOr, u_cNot, u_zN, u_zS, u_zD, u_zL, u_zI, u_zB, u_zP, u_zF, u_zA, u_zU, u_zC, u_zR, u_zRZ, u_zRC, u_zRV, u_zT, u_zE, u_zK, u_zY, ho_nid, List.getD_cons_zero, List.getD_cons_succ, List.set_cons_zero, List.set_cons_succ, List.cons_append, List.nil_append, List.take_succ_cons, List.take_zero, Int.reduceToNat, Int.toNat_natCast, nN_0, nN_1, nN_2, nN_3, nN_4, nN_5, nN_6, nN_7, nN_8, nN_9, nN_10, nN_11, nN_12, nN_13, nN_14, nN_15, nN_16, nN_17, nN_18, nN_19, nN_20, nN_21, nN_22, nN_23, nN_24, nN_25, nN_26, nN_27, nN_28, nN_29, nN_30, nN_31, nN_32, nN_33, nN_34, nN_35, nN_36, nN_37, nN_38, nN_39, nN_40, nN_41, nN_42, nN_43, nN_44, nN_45, nN_46, nN_47, nN_48, nN_49, nN_50, nN_51, nN_52, nN_53, nN_54, nR_0_0, nR_0_1, nR_0_2, nR_0_3, nR_0_4, nR_0_5, nR_0_6, nR_0_7, nR_0_8, nR_0_9, nR_0_10, nR_1_0, nR_1_1, nR_1_2, nR_1_3, nR_1_4, nR_2_0, nR_2_1, nR_2_2, nR_2_3, nR_2_4, nR_3_0, nR_3_1, nR_4_2, nR_5_2, nR_6_0, nR_6_1, nR_6_2, nR_7_0, nR_30_2, nR_30_3, nR_30_4, nR_30_6, nR_30_7, nR_30_9, nR_30_10, nR_30_11, nR_30_12, nR_30_13, nR_30_14, nR_30_15, nR_30_16, nR_30_18, nR_30_19, nR_30_20, nR_30_21, nR_30_22, nR_30_23, nR_30_24, nR_30_28, nR_30_29, nR_30_31, sp_sizeT ht hT', sp_store]
  rw [si24 (by omega)]
  exact h _ up (fun i hi => uf i (by omega))
theorem sp_divide {T : Nat → Int} {W : Int} {t n : Nat} {σ : ho_S} {Q : ho_K} {X : ho_X} (ht : t < 80) (hT : TXT σ t n T) (h : ∀ σ', sm pLy σ σ' → σ' 6 3 = ((rws T W n).length : Int) → σ' 6 4 = wid T (rws T W n) → RW (σ' 22) (σ' 23) (rws T W n) → Q 0 σ') : mX1_divide [6, 3, (t : Int), W] σ Q X := by
  have hn := hT.2.1
  simp only [mX1_divide, fX1_divide, u_eC, u_eV, u_eF, u_eR, u_eI, u_eL, u_eB, u_eD, u_eM, u_eU, u_aN, u_aC, u_eK, u_eT, u_cLt, u_cLe, u_cGt, u_cGe, u_cEq, u_cNe, u_cAnd, u_cOr, u_cNot, u_zN, u_zS, u_zD, u_zL, u_zI, u_zB, u_zP, u_zF, u_zA, u_zU, u_zC, u_zR, u_zRZ, u_zRC, u_zRV, u_zT, u_zE, u_zK, u_zY, ho_nid, List.getD_cons_zero, List.getD_cons_succ, List.set_cons_zero, List.set_cons_succ, List.cons_append, List.nil_append, List.take_succ_cons, List.take_zero, Int.reduceToNat, Int.toNat_natCast, nN_0, nN_1, nN_2, nN_3, nN_4, nN_5, nN_6, nN_7, nN_8, nN_9, nN_10, nN_11, nN_12, nN_13, nN_14, nN_15, nN_16, nN_17, nN_18, nN_19, nN_20, nN_21, nN_22, nN_23, nN_24, nN_25, nN_26, nN_27, nN_28, nN_29, nN_30, nN_31, nN_32, nN_33, nN_34, nN_35, nN_36, nN_37, nN_38, nN_39, nN_40, nN_41, nN_42, nN_43, nN_44, nN_45, nN_46, nN_47, nN_48, nN_49, nN_50, nN_51, nN_52, nN_53, nN_54, nR_0_0, nR_0_1, nR_0_2, nR_0_3, nR_0_4, nR_0_5, nR_0_6, nR_0_7, nR_0_8, nR_0_9, nR_0_10, nR_1_0, nR_1_1, nR_1_2, nR_1_3, nR_1_4, nR_2_0, nR_2_1, nR_2_2, nR_2_3, nR_2_4, nR_3_0, nR_3_1, nR_4_2, nR_5_2, nR_6_0, nR_6_1, nR_6_2, nR_7_0, nR_30_2, nR_30_3, nR_30_4, nR_30_6, nR_30_7, nR_30_9, nR_30_10, nR_30_11, nR_30_12, nR_30_13, nR_30_14, nR_30_15, nR_30_16, nR_30_18, nR_30_19, nR_30_20, nR_30_21, nR_30_22, nR_30_23, nR_30_24, nR_30_28, nR_30_29, nR_30_31]
  obtain ⟨σ1, hσ1⟩ : ∃ σ1, σ1 = ho_up (ho_up σ 6 3 0) 6 4 0 := ⟨_, rfl⟩
  rw [← hσ1]
  have s1 : sm pLy σ σ1 := by rw [hσ1]; exact sm_up (sm_up sm_rf rfl) rfl
  have a3 : σ1 6 3 = 0 := by rw [hσ1, ho_upJ (by omega)]; exact ho_upE
  have a4 : σ1 6 4 = 0 := by rw [hσ1]; exact ho_upE
  clear hσ1
  have hT1 := TXT_sm hT s1 (fun _ => rfl) (fun _ => rfl)
  refine (sp_sizeT ht hT1).mpr ⟨fun c1 => ?_, fun c1 => ?_⟩
  · have e : rws T W n = [] := if_pos (by omega)
    rw [e] at h
    exact h σ1 s1 a3 a4 RW_nil
  have ec : rws T W n = (acc T W n).2 ++ prt T W (acc T W n).1 n := if_neg (by omega)
  refine sp_measure ht hT1 (fun σ2 s2 f2 => ?_)
  have s2' : sm pLy σ1 σ2 := sm_mo s2 (fun k j e => by
    unfold pLy at e
    unfold p24
    cases q : Nat.beq k 24
    · rfl
    · rw [q] at e; simp at e)
  have b3 : σ2 6 3 = 0 := (s2 6 3 rfl).trans a3
  have b4 : σ2 6 4 = 0 := (s2 6 4 rfl).trans a4
  refine zW_rule (fun v σ' m => ∃ k x : Nat, k ≤ n + 1 ∧ v = [6, 3, (t : Int), W, (n : Int), (x : Int), (k : Int)] ∧ m = n + 1 - k ∧ sm pLy σ σ' ∧ (k ≤ n → x = (acc T W k).1 ∧ LY T n σ' (acc T W k).2) ∧ (k = n + 1 → LY T n σ' (rws T W n))) _ ⟨0, 0, by omega, rfl, rfl, sm_tr s1 s2', fun _ => ⟨rfl, f2, b3, b4, RW_nil⟩, fun z => by omega⟩ ?_
  rintro v σ' m ⟨k, x, hk, rfl, rfl, hs, hf, hg⟩ KK KE hKK hKE
  have hT' := TXT_sm hT hs (fun _ => rfl) (fun _ => rfl)
  simp only [u_eC, u_eV, u_eF, u_eR, u_eI, u_eL, u_eB, u_eD, u_eM, u_eU, u_aN, u_aC, u_eK, u_eT, u_cLt, u_cLe, u_cGt, u_cGe, u_cEq, u_cNe, u_cAnd, u_cOr, u_cNot, u_zN, u_zS, u_zD, u_zL, u_zI, u_zB, u_zP, u_zF, u_zA, u_zU, u_zC, u_zR, u_zRZ, u_zRC, u_zRV, u_zT, u_zE, u_zK, u_zY, ho_nid, List.getD_cons_zero, List.getD_cons_succ, List.set_cons_zero, List.set_cons_succ, List.cons_append, List.nil_append, List.take_succ_cons, List.take_zero, Int.reduceToNat, Int.toNat_natCast, nN_0, nN_1, nN_2, nN_3, nN_4, nN_5, nN_6, nN_7, nN_8, nN_9, nN_10, nN_11, nN_12, nN_13, nN_14, nN_15, nN_16, nN_17, nN_18, nN_19, nN_20, nN_21, nN_22, nN_23, nN_24, nN_25, nN_26, nN_27, nN_28, nN_29, nN_30, nN_31, nN_32, nN_33, nN_34, nN_35, nN_36, nN_37, nN_38, nN_39, nN_40, nN_41, nN_42, nN_43, nN_44, nN_45, nN_46, nN_47, nN_48, nN_49, nN_50, nN_51, nN_52, nN_53, nN_54, nR_0_0, nR_0_1, nR_0_2, nR_0_3, nR_0_4, nR_0_5, nR_0_6, nR_0_7, nR_0_8, nR_0_9, nR_0_10, nR_1_0, nR_1_1, nR_1_2, nR_1_3, nR_1_4, nR_2_0, nR_2_1, nR_2_2, nR_2_3, nR_2_4, nR_3_0, nR_3_1, nR_4_2, nR_5_2, nR_6_0, nR_6_1, nR_6_2, nR_7_0, nR_30_2, nR_30_3, nR_30_4, nR_30_6, nR_30_7, nR_30_9, nR_30_10, nR_30_11, nR_30_12, nR_30_13, nR_30_14, nR_30_15, nR_30_16, nR_30_18, nR_30_19, nR_30_20, nR_30_21, nR_30_22, nR_30_23, nR_30_24, nR_30_28, nR_30_29, nR_30_31, sp_signT ht hT', inc (show k < 100000 by omega), oinc (show k < 100000 by omega)]
  refine ⟨fun c1 => ?_, fun c1 => hKE _ ?_⟩
  · obtain ⟨rfl, hL⟩ := hf (by omega)
    have r1 := acc_rg (T := T) (W := W) k
    have r2 := prt_len (T := T) (W := W) r1.1
    have key : ∀ Q' : ho_K, (∀ σ3, sm pLy σ' σ3 → LY T n σ3 ((acc T W k).2 ++ prt T W (acc T W k).1 k) → Q' 0 σ3) → mX1_dividePart [6, 3, (t : Int), ((acc T W k).1 : Int), (k : Int), W] σ' Q' X := fun Q' h' => sp_dividePart ht hT' r1.1 (by omega) (by omega) hL h'
    refine ⟨fun c2 => ?_, fun c2 => ⟨fun c3 => ?_, fun c3 => ?_⟩⟩
    · have hkn : k = n := by omega
      subst hkn
      refine key _ (fun σ3 s3 L3 => hKK _ _ (k + 1 - (k + 1)) (by omega) ⟨k + 1, k + 1, by omega, rfl, rfl, sm_tr hs s3, fun z => by omega, fun _ => ?_⟩)
      rw [ec]; exact L3
    · have hkn : k ≠ n := by omega
      refine key _ (fun σ3 s3 L3 => hKK _ _ (n + 1 - (k + 1)) (by omega) ⟨k + 1, k + 1, by omega, rfl, rfl, sm_tr hs s3, fun z => ?_, fun z => by omega⟩)
      rw [acc_y c3]; exact ⟨rfl, L3⟩
    · have hkn : k ≠ n := by omega
      refine hKK _ _ (n + 1 - (k + 1)) (by omega) ⟨k + 1, (acc T W k).1, by omega, rfl, rfl, hs, fun z => ?_, fun z => by omega⟩
      rw [acc_n c3]; exact ⟨rfl, hL⟩
  · have L9 := hg (by omega)
    exact h σ' hs L9.2.1 L9.2.2.1 L9.2.2.2
