-- times: object 2; starts 13, lengths 14, runStarts 15, longestStarts 16, longest 17
theorem sp_tstart {c : Int} {σ : ho_S} {Q : ho_K} {X : ho_X} : mX5_start [2, c] σ Q X ↔ Q (gi σ 13 c) σ := by
  simp only [mX5_start, fX5_start, zN, zS, zD, zL, zI, zB, zP, zF, zA, zU, zC, zR, zRZ, zRC, zRV, zT, zE, zK, zY, eC, eV, eF, eR, eI, eL, eB, eD, eM, eU, eK, eT, aN, aC, cLt, cLe, cGt, cGe, cEq, cNe, cAnd, cOr, cNot, ho_nid, List.getD_cons_zero, List.getD_cons_succ, List.set_cons_zero, List.set_cons_succ, List.cons_append, List.nil_append, List.take_succ_cons, List.take_zero, Int.reduceToNat, Int.toNat_natCast, nN_0, nN_1, nN_2, nN_3, nN_4, nN_5, nN_6, nN_7, nN_8, nN_9, nN_10, nN_11, nN_12, nN_13, nN_14, nN_15, nN_16, nN_17, nN_18, nN_19, nN_20, nN_21, nN_22, nN_23, nN_24, nN_25, nN_26, nN_27, nN_28, nN_29, nN_30, nN_31, nN_32, nN_33, nN_34, nN_35, nN_36, nN_37, nN_38, nN_39, nN_40, nN_41, nN_42, nN_43, nN_44, nN_45, nN_46, nN_47, nN_48, nN_49, nN_50, nN_51, nN_52, nN_53, nN_54, nR_0_0, nR_0_1, nR_0_2, nR_0_3, nR_0_4, nR_0_5, nR_0_6, nR_0_7, nR_0_8, nR_0_9, nR_0_10, nR_1_0, nR_1_1, nR_1_2, nR_1_3, nR_1_4, nR_2_0, nR_2_1, nR_2_2, nR_2_3, nR_2_4, nR_3_0, nR_3_1, nR_4_2, nR_5_2, nR_6_0, nR_6_1, nR_6_2, nR_7_0, nR_30_2, nR_30_3, nR_30_4, nR_30_6, nR_30_7, nR_30_9, nR_30_10, nR_30_11, nR_30_12, nR_30_13, nR_30_14, nR_30_15, nR_30_16, nR_30_18, nR_30_19, nR_30_20, nR_30_21, nR_30_22, nR_30_23, nR_30_24, nR_30_28, nR_30_29, nR_30_31, sp_item]
theorem sp_tlength {c : Int} {σ : ho_S} {Q : ho_K} {X : ho_X} : mX5_length [2, c] σ Q X ↔ Q (gi σ 14 c) σ := by
  simp only [mX5_length, fX5_length, zN, zS, zD, zL, zI, zB, zP, zF, zA, zU, zC, zR, zRZ, zRC, zRV, zT, zE, zK, zY, eC, eV, eF, eR, eI, eL, eB, eD, eM, eU, eK, eT, aN, aC, cLt, cLe, cGt, cGe, cEq, cNe, cAnd, cOr, cNot, ho_nid, List.getD_cons_zero, List.getD_cons_succ, List.set_cons_zero, List.set_cons_succ, List.cons_append, List.nil_append, List.take_succ_cons, List.take_zero, Int.reduceToNat, Int.toNat_natCast, nN_0, nN_1, nN_2, nN_3, nN_4, nN_5, nN_6, nN_7, nN_8, nN_9, nN_10, nN_11, nN_12, nN_13, nN_14, nN_15, nN_16, nN_17, nN_18, nN_19, nN_20, nN_21, nN_22, nN_23, nN_24, nN_25, nN_26, nN_27, nN_28, nN_29, nN_30, nN_31, nN_32, nN_33, nN_34, nN_35, nN_36, nN_37, nN_38, nN_39, nN_40, nN_41, nN_42, nN_43, nN_44, nN_45, nN_46, nN_47, nN_48, nN_49, nN_50, nN_51, nN_52, nN_53, nN_54, nR_0_0, nR_0_1, nR_0_2, nR_0_3, nR_0_4, nR_0_5, nR_0_6, nR_0_7, nR_0_8, nR_0_9, nR_0_10, nR_1_0, nR_1_1, nR_1_2, nR_1_3, nR_1_4, nR_2_0, nR_2_1, nR_2_2, nR_2_3, nR_2_4, nR_3_0, nR_3_1, nR_4_2, nR_5_2, nR_6_0, nR_6_1, nR_6_2, nR_7_0, nR_30_2, nR_30_3, nR_30_4, nR_30_6, nR_30_7, nR_30_9, nR_30_10, nR_30_11, nR_30_12, nR_30_13, nR_30_14, nR_30_15, nR_30_16, nR_30_18, nR_30_19, nR_30_20, nR_30_21, nR_30_22, nR_30_23, nR_30_24, nR_30_28, nR_30_29, nR_30_31, sp_item]
theorem sp_tend {c : Int} {σ : ho_S} {Q : ho_K} {X : ho_X} : mX5_end [2, c] σ Q X ↔ Q (ho_w (gi σ 13 c + gi σ 14 c)) σ := by
  simp only [mX5_end, fX5_end, zN, zS, zD, zL, zI, zB, zP, zF, zA, zU, zC, zR, zRZ, zRC, zRV, zT, zE, zK, zY, eC, eV, eF, eR, eI, eL, eB, eD, eM, eU, eK, eT, aN, aC, cLt, cLe, cGt, cGe, cEq, cNe, cAnd, cOr, cNot, ho_nid, List.getD_cons_zero, List.getD_cons_succ, List.set_cons_zero, List.set_cons_succ, List.cons_append, List.nil_append, List.take_succ_cons, List.take_zero, Int.reduceToNat, Int.toNat_natCast, nN_0, nN_1, nN_2, nN_3, nN_4, nN_5, nN_6, nN_7, nN_8, nN_9, nN_10, nN_11, nN_12, nN_13, nN_14, nN_15, nN_16, nN_17, nN_18, nN_19, nN_20, nN_21, nN_22, nN_23, nN_24, nN_25, nN_26, nN_27, nN_28, nN_29, nN_30, nN_31, nN_32, nN_33, nN_34, nN_35, nN_36, nN_37, nN_38, nN_39, nN_40, nN_41, nN_42, nN_43, nN_44, nN_45, nN_46, nN_47, nN_48, nN_49, nN_50, nN_51, nN_52, nN_53, nN_54, nR_0_0, nR_0_1, nR_0_2, nR_0_3, nR_0_4, nR_0_5, nR_0_6, nR_0_7, nR_0_8, nR_0_9, nR_0_10, nR_1_0, nR_1_1, nR_1_2, nR_1_3, nR_1_4, nR_2_0, nR_2_1, nR_2_2, nR_2_3, nR_2_4, nR_3_0, nR_3_1, nR_4_2, nR_5_2, nR_6_0, nR_6_1, nR_6_2, nR_7_0, nR_30_2, nR_30_3, nR_30_4, nR_30_6, nR_30_7, nR_30_9, nR_30_10, nR_30_11, nR_30_12, nR_30_13, nR_30_14, nR_30_15, nR_30_16, nR_30_18, nR_30_19, nR_30_20, nR_30_21, nR_30_22, nR_30_23, nR_30_24, nR_30_28, nR_30_29, nR_30_31, sp_tstart, sp_tlength, ho_oadd]
theorem sp_isIn {c : Int} {σ : ho_S} {Q : ho_K} {X : ho_X} : mX5_isIn [2, c] σ Q X ↔ Q (if 0 < gi σ 14 c then 1 else 0) σ := by
  simp only [mX5_isIn, fX5_isIn, zN, zS, zD, zL, zI, zB, zP, zF, zA, zU, zC, zR, zRZ, zRC, zRV, zT, zE, zK, zY, eC, eV, eF, eR, eI, eL, eB, eD, eM, eU, eK, eT, aN, aC, cLt, cLe, cGt, cGe, cEq, cNe, cAnd, cOr, cNot, ho_nid, List.getD_cons_zero, List.getD_cons_succ, List.set_cons_zero, List.set_cons_succ, List.cons_append, List.nil_append, List.take_succ_cons, List.take_zero, Int.reduceToNat, Int.toNat_natCast, nN_0, nN_1, nN_2, nN_3, nN_4, nN_5, nN_6, nN_7, nN_8, nN_9, nN_10, nN_11, nN_12, nN_13, nN_14, nN_15, nN_16, nN_17, nN_18, nN_19, nN_20, nN_21, nN_22, nN_23, nN_24, nN_25, nN_26, nN_27, nN_28, nN_29, nN_30, nN_31, nN_32, nN_33, nN_34, nN_35, nN_36, nN_37, nN_38, nN_39, nN_40, nN_41, nN_42, nN_43, nN_44, nN_45, nN_46, nN_47, nN_48, nN_49, nN_50, nN_51, nN_52, nN_53, nN_54, nR_0_0, nR_0_1, nR_0_2, nR_0_3, nR_0_4, nR_0_5, nR_0_6, nR_0_7, nR_0_8, nR_0_9, nR_0_10, nR_1_0, nR_1_1, nR_1_2, nR_1_3, nR_1_4, nR_2_0, nR_2_1, nR_2_2, nR_2_3, nR_2_4, nR_3_0, nR_3_1, nR_4_2, nR_5_2, nR_6_0, nR_6_1, nR_6_2, nR_7_0, nR_30_2, nR_30_3, nR_30_4, nR_30_6, nR_30_7, nR_30_9, nR_30_10, nR_30_11, nR_30_12, nR_30_13, nR_30_14, nR_30_15, nR_30_16, nR_30_18, nR_30_19, nR_30_20, nR_30_21, nR_30_22, nR_30_23, nR_30_24, nR_30_28, nR_30_29, nR_30_31, sp_tlength, nLt, nLe, true_or, or_true, true_and]
  exact ite_q
theorem sp_tset {c s l : Int} {σ : ho_S} {Q : ho_K} {X : ho_X} : mX5_set [2, c, s, l] σ Q X ↔ Q 0 (si (si σ 13 c s) 14 c l) := by
  simp only [mX5_set, fX5_set, zN, zS, zD, zL, zI, zB, zP, zF, zA, zU, zC, zR, zRZ, zRC, zRV, zT, zE, zK, zY, eC, eV, eF, eR, eI, eL, eB, eD, eM, eU, eK, eT, aN, aC, cLt, cLe, cGt, cGe, cEq, cNe, cAnd, cOr, cNot, ho_nid, List.getD_cons_zero, List.getD_cons_succ, List.set_cons_zero, List.set_cons_succ, List.cons_append, List.nil_append, List.take_succ_cons, List.take_zero, Int.reduceToNat, Int.toNat_natCast, nN_0, nN_1, nN_2, nN_3, nN_4, nN_5, nN_6, nN_7, nN_8, nN_9, nN_10, nN_11, nN_12, nN_13, nN_14, nN_15, nN_16, nN_17, nN_18, nN_19, nN_20, nN_21, nN_22, nN_23, nN_24, nN_25, nN_26, nN_27, nN_28, nN_29, nN_30, nN_31, nN_32, nN_33, nN_34, nN_35, nN_36, nN_37, nN_38, nN_39, nN_40, nN_41, nN_42, nN_43, nN_44, nN_45, nN_46, nN_47, nN_48, nN_49, nN_50, nN_51, nN_52, nN_53, nN_54, nR_0_0, nR_0_1, nR_0_2, nR_0_3, nR_0_4, nR_0_5, nR_0_6, nR_0_7, nR_0_8, nR_0_9, nR_0_10, nR_1_0, nR_1_1, nR_1_2, nR_1_3, nR_1_4, nR_2_0, nR_2_1, nR_2_2, nR_2_3, nR_2_4, nR_3_0, nR_3_1, nR_4_2, nR_5_2, nR_6_0, nR_6_1, nR_6_2, nR_7_0, nR_30_2, nR_30_3, nR_30_4, nR_30_6, nR_30_7, nR_30_9, nR_30_10, nR_30_11, nR_30_12, nR_30_13, nR_30_14, nR_30_15, nR_30_16, nR_30_18, nR_30_19, nR_30_20, nR_30_21, nR_30_22, nR_30_23, nR_30_24, nR_30_28, nR_30_29, nR_30_31, sp_store]
/-- the longest run of places with p among the first n, the earliest of several: where, how long -/
def LR (p : Nat → Prop) (n : Nat) (s l : Int) : Prop :=
  (l = 0 ∧ s = -1 ∧ ∀ i, i < n → ¬ p i) ∨ (0 < l ∧ 0 ≤ s ∧ s + l ≤ n ∧ (∀ i : Nat, s ≤ i → (i : Int) < s + l → p i) ∧ ∀ a b : Nat, a < b → b ≤ n → (∀ i, a ≤ i → i < b → p i) → (b : Int) - a < l ∨ ((b : Int) - a = l ∧ s ≤ a))
theorem LR_uniq {p : Nat → Prop} {n : Nat} {s l s' l' : Int} (h : LR p n s l) (h' : LR p n s' l') : s = s' ∧ l = l' := by
  rcases h with ⟨h1, h2, h3⟩ | ⟨h1, h2, h3, h4, h5⟩ <;> rcases h' with ⟨g1, g2, g3⟩ | ⟨g1, g2, g3, g4, g5⟩
  · omega
  · exact absurd (g4 s'.toNat (by omega) (by omega)) (h3 _ (by omega))
  · exact absurd (h4 s.toNat (by omega) (by omega)) (g3 _ (by omega))
  · have a1 := h5 s'.toNat (s' + l').toNat (by omega) (by omega) (fun i a b => g4 i (by omega) (by omega))
    have a2 := g5 s.toNat (s + l).toNat (by omega) (by omega) (fun i a b => h4 i (by omega) (by omega))
    omega
theorem LR_congr {p q : Nat → Prop} {n : Nat} {s l : Int} (h : ∀ i, i < n → (p i ↔ q i)) (k : LR p n s l) : LR q n s l := by
  rcases k with ⟨h1, h2, h3⟩ | ⟨h1, h2, h3, h4, h5⟩
  · exact Or.inl ⟨h1, h2, fun i hi z => h3 i hi ((h i hi).mpr z)⟩
  · exact Or.inr ⟨h1, h2, h3, fun i a b => (h i (by omega)).mp (h4 i a b), fun a b c d e => h5 a b c d (fun i x y => (h i (by omega)).mpr (e i x y))⟩
theorem LR_zero {p : Nat → Prop} {s l : Int} (h : LR p 0 s l) : s = -1 ∧ l = 0 := by
  rcases h with ⟨h1, h2, h3⟩ | ⟨h1, h2, h3, h4, h5⟩ <;> omega
theorem LR_nil {p : Nat → Prop} : LR p 0 (-1) 0 := Or.inl ⟨rfl, rfl, fun i hi => by omega⟩
/-- one place more, without p -/
theorem LR_off {p : Nat → Prop} {n : Nat} {s l : Int} (h : LR p n s l) (hn : ¬ p n) : LR p (n + 1) s l := by
  rcases h with ⟨h1, h2, h3⟩ | ⟨h1, h2, h3, h4, h5⟩
  · refine Or.inl ⟨h1, h2, fun i hi z => ?_⟩
    rcases Nat.lt_or_ge i n with q | q
    · exact h3 i q z
    · rw [show i = n by omega] at z; exact hn z
  · refine Or.inr ⟨h1, h2, by omega, h4, fun a b hab hb hp => ?_⟩
    rcases Nat.lt_or_ge n b with q | q
    · exact absurd (hp n (by omega) (by omega)) hn
    · exact h5 a b hab (by omega) hp
theorem LR_offs {p : Nat → Prop} {n m : Nat} {s l : Int} (h : LR p n s l) (hm : n ≤ m) (hn : ∀ i, n ≤ i → i < m → ¬ p i) : LR p m s l := by
  induction m with
  | zero => rw [show n = 0 by omega] at h; exact h
  | succ m ih =>
    by_cases q : n = m + 1
    · rw [← q]; exact h
    · exact LR_off (ih (by omega) (fun i a b => hn i a (by omega))) (hn m (by omega) (by omega))
/-- a run from r up to n, maximal at its start, done now; what was found for the places up to r -/
theorem LR_run {p : Nat → Prop} {r n : Nat} {s l : Int} (h : LR p r s l) (hr : r < n) (hp : ∀ i, r ≤ i → i < n → p i) (h0 : r = 0 ∨ ¬ p (r - 1)) : LR p n (if l < (n : Int) - r then r else s) (if l < (n : Int) - r then (n : Int) - r else l) := by
  have key : ∀ a b : Nat, a < b → b ≤ n → (∀ i, a ≤ i → i < b → p i) → (b ≤ r ∨ (r ≤ a)) := by
    intro a b hab hb hq
    rcases Nat.lt_or_ge r b with q | q
    · right
      rcases Nat.lt_or_ge a r with z | z
      · rcases h0 with h0 | h0
        · omega
        · exact absurd (hq (r - 1) (by omega) (by omega)) h0
      · exact z
    · exact Or.inl q
  by_cases c : l < (n : Int) - r
  · rw [if_pos c, if_pos c]
    refine Or.inr ⟨by omega, by omega, by omega, fun i a b => hp i (by omega) (by omega), fun a b hab hb hq => ?_⟩
    rcases key a b hab hb hq with k | k
    · rcases h with ⟨h1, h2, h3⟩ | ⟨h1, h2, h3, h4, h5⟩
      · exact absurd (hq a (by omega) hab) (h3 a (by omega))
      · have := h5 a b hab k hq
        omega
    · omega
  · rw [if_neg c, if_neg c]
    rcases h with ⟨h1, h2, h3⟩ | ⟨h1, h2, h3, h4, h5⟩
    · omega
    · refine Or.inr ⟨h1, h2, by omega, h4, fun a b hab hb hq => ?_⟩
      rcases key a b hab hb hq with k | k
      · exact h5 a b hab k hq
      · have : (b : Int) - a ≤ n - r := by omega
        rcases Int.lt_or_le ((b : Int) - a) l with z | z
        · exact Or.inl z
        · exact Or.inr ⟨by omega, by omega⟩
/-- scanning: the run that ends here, and the best of all that end here or before -/
def SC (p : Nat → Prop) (n : Nat) (run s l : Int) : Prop := 0 ≤ run ∧ run ≤ n ∧ (∀ i : Nat, (n : Int) - run ≤ i → i < n → p i) ∧ (run = n ∨ ¬ p (n - 1 - run.toNat)) ∧ LR p n s l
theorem SC_0 {p : Nat → Prop} : SC p 0 0 (-1) 0 := ⟨by omega, by omega, fun i a b => by omega, Or.inl rfl, LR_nil⟩
theorem SC_off {p : Nat → Prop} {n : Nat} {run s l : Int} (h : SC p n run s l) (hn : ¬ p n) : SC p (n + 1) 0 s l :=
  ⟨by omega, by omega, fun i a b => by omega, Or.inr (by simpa using hn), LR_off h.2.2.2.2 hn⟩
theorem SC_on {p : Nat → Prop} {n : Nat} {run s l : Int} (h : SC p n run s l) (hn : p n) : SC p (n + 1) (run + 1) (if l < run + 1 then (n : Int) - run else s) (if l < run + 1 then run + 1 else l) := by
  obtain ⟨h1, h2, h3, h4, h5⟩ := h
  refine ⟨by omega, by omega, fun i a b => ?_, ?_, ?_⟩
  · rcases Nat.lt_or_ge i n with q | q
    · exact h3 i (by omega) q
    · rw [show i = n by omega]; exact hn
  · rcases h4 with h4 | h4
    · left; omega
    · right
      rw [show n + 1 - 1 - (run + 1).toNat = n - 1 - run.toNat by omega]
      exact h4
  · have key : ∀ a b : Nat, a < b → b ≤ n + 1 → (∀ i, a ≤ i → i < b → p i) → b = n + 1 → (n : Int) - run ≤ a := by
      intro a b hab hb hq hbn
      rcases Int.lt_or_le (a : Int) ((n : Int) - run) with z | z
      · rcases h4 with h4 | h4
        · omega
        · exact absurd (hq (n - 1 - run.toNat) (by omega) (by omega)) h4
      · exact z
    by_cases c : l < run + 1
    · rw [if_pos c, if_pos c]
      refine Or.inr ⟨by omega, by omega, by omega, fun i a b => ?_, fun a b hab hb hq => ?_⟩
      · rcases Nat.lt_or_ge i n with q | q
        · exact h3 i (by omega) q
        · rw [show i = n by omega]; exact hn
      · by_cases hbn : b = n + 1
        · have := key a b hab hb hq hbn
          omega
        · rcases h5 with ⟨g1, g2, g3⟩ | ⟨g1, g2, g3, g4, g5⟩
          · exact absurd (hq a (by omega) hab) (g3 a (by omega))
          · have := g5 a b hab (by omega) hq
            omega
    · rw [if_neg c, if_neg c]
      rcases h5 with ⟨g1, g2, g3⟩ | ⟨g1, g2, g3, g4, g5⟩
      · omega
      · refine Or.inr ⟨g1, g2, by omega, g4, fun a b hab hb hq => ?_⟩
        by_cases hbn : b = n + 1
        · have := key a b hab hb hq hbn
          omega
        · exact g5 a b hab (by omega) hq
/-- laid on n places from a on -/
theorem LR_laid {p : Nat → Prop} {n a k : Nat} (hk : 0 < k) (ha : a + k ≤ n) (h : ∀ i, i < n → (p i ↔ a ≤ i ∧ i < a + k)) : LR p n a k := by
  refine Or.inr ⟨by omega, by omega, by omega, fun i x y => (h i (by omega)).mpr (by omega), fun x y hxy hy hq => ?_⟩
  have h1 := (h x (by omega)).mp (hq x (by omega) hxy)
  have h2 := (h (y - 1) (by omega)).mp (hq (y - 1) (by omega) (by omega))
  omega
theorem LR_pos {p : Nat → Prop} {n : Nat} {s l : Int} (h : LR p n s l) : (0 ≤ l) ∧ (l ≤ n) ∧ (-1 ≤ s) ∧ (s < n) ∧ (s + l ≤ n) ∧ (s = -1 ↔ l = 0) := by
  rcases h with ⟨h1, h2, h3⟩ | ⟨h1, h2, h3, h4, h5⟩ <;> omega
