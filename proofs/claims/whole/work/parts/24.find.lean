def tri (σ : ho_S) (a b c : Nat → Int) : ho_S := sa (sa (sa σ 15 a) 16 b) 17 c
theorem tri15 {σ : ho_S} {a b c : Nat → Int} {k : Nat} {v : Int} : ho_up (tri σ a b c) 15 k v = tri σ (fun j => if j = k then v else a j) b c := by
  funext q j
  unfold tri ho_up sa
  by_cases h15 : q = 15
  · subst h15; simp
  · simp [h15]
theorem tri16 {σ : ho_S} {a b c : Nat → Int} {k : Nat} {v : Int} : ho_up (tri σ a b c) 16 k v = tri σ a (fun j => if j = k then v else b j) c := by
  funext q j
  unfold tri ho_up sa
  by_cases h15 : q = 16
  · subst h15; simp
  · simp [h15]
theorem tri17 {σ : ho_S} {a b c : Nat → Int} {k : Nat} {v : Int} : ho_up (tri σ a b c) 17 k v = tri σ a b (fun j => if j = k then v else c j) := by
  funext q j
  unfold tri ho_up sa
  by_cases h15 : q = 17
  · subst h15; simp
  · simp [h15]
theorem tri_id {σ : ho_S} : tri σ (σ 15) (σ 16) (σ 17) = σ := by
  funext q j
  unfold tri sa
  by_cases h1 : q = 17
  · subst h1; simp
  · by_cases h2 : q = 16
    · subst h2; simp
    · by_cases h3 : q = 15
      · subst h3; simp
      · simp [h1, h2, h3]
theorem triF {σ : ho_S} {a b c : Nat → Int} {q : Nat} (h1 : q ≠ 15) (h2 : q ≠ 16) (h3 : q ≠ 17) : tri σ a b c q = σ q := by
  funext j; simp [tri, sa, h1, h2, h3]
theorem sp_endRun {c p : Int} {a b l : Nat → Int} {σ : ho_S} {Q : ho_K} {X : ho_X} (hc0 : 0 ≤ c) (hc1 : c < 16) (hp0 : 0 ≤ p) (hp1 : p ≤ 4800) (ha0 : 0 ≤ a c.toNat) (ha1 : a c.toNat ≤ 4800)
    (h : Q 0 (tri σ a (fun j => if j = c.toNat ∧ l c.toNat < p - a c.toNat then a c.toNat else b j) (fun j => if j = c.toNat ∧ l c.toNat < p - a c.toNat then p - a c.toNat else l j))) : mX5_endRun [2, c, p] (tri σ a b l) Q X := by
  simp only [mX5_endRun, fX5_endRun, zN, zS, zD, zL, zI, zB, zP, zF, zA, zU, zC, zR, zRZ, zRC, zRV, zT, zE, zK, zY, eC, eV, eF, eR, eI, eL, eB, eD, eM, eU, eK, eT, aN, aC, cLt, cLe, cGt, cGe, cEq, cNe, cAnd, cOr, cNot, ho_nid, List.getD_cons_zero, List.getD_cons_succ, List.set_cons_zero, List.set_cons_succ, List.cons_append, List.nil_append, List.take_succ_cons, List.take_zero, Int.reduceToNat, Int.toNat_natCast, nN_0, nN_1, nN_2, nN_3, nN_4, nN_5, nN_6, nN_7, nN_8, nN_9, nN_10, nN_11, nN_12, nN_13, nN_14, nN_15, nN_16, nN_17, nN_18, nN_19, nN_20, nN_21, nN_22, nN_23, nN_24, nN_25, nN_26, nN_27, nN_28, nN_29, nN_30, nN_31, nN_32, nN_33, nN_34, nN_35, nN_36, nN_37, nN_38, nN_39, nN_40, nN_41, nN_42, nN_43, nN_44, nN_45, nN_46, nN_47, nN_48, nN_49, nN_50, nN_51, nN_52, nN_53, nN_54, nR_0_0, nR_0_1, nR_0_2, nR_0_3, nR_0_4, nR_0_5, nR_0_6, nR_0_7, nR_0_8, nR_0_9, nR_0_10, nR_1_0, nR_1_1, nR_1_2, nR_1_3, nR_1_4, nR_2_0, nR_2_1, nR_2_2, nR_2_3, nR_2_4, nR_3_0, nR_3_1, nR_4_2, nR_5_2, nR_6_0, nR_6_1, nR_6_2, nR_7_0, nR_30_2, nR_30_3, nR_30_4, nR_30_6, nR_30_7, nR_30_9, nR_30_10, nR_30_11, nR_30_12, nR_30_13, nR_30_14, nR_30_15, nR_30_16, nR_30_18, nR_30_19, nR_30_20, nR_30_21, nR_30_22, nR_30_23, nR_30_24, nR_30_28, nR_30_29, nR_30_31, sp_item, sp_store, ho_osub]
  have e1 : gi (tri σ a b l) 15 c = a c.toNat := by rw [gi_in hc0 (by show c < (16 : Int); omega)]; rfl
  have e2 : gi (tri σ a b l) 17 c = l c.toNat := by rw [gi_in hc0 (by show c < (16 : Int); omega)]; rfl
  rw [e1, e2, wE (by omega) (by omega)]
  refine ⟨fun q => ?_, fun q => ?_⟩
  · rw [si_in hc0 (by show c < (16 : Int); omega), si_in hc0 (by show c < (16 : Int); omega)]
    show Q 0 (ho_up (ho_up (tri σ a b l) 16 c.toNat (a c.toNat)) 17 c.toNat (p - a c.toNat))
    rw [tri16, tri17]
    have f1 : (fun j => if j = c.toNat then a c.toNat else b j) = (fun j => if j = c.toNat ∧ l c.toNat < p - a c.toNat then a c.toNat else b j) := by
      funext j; by_cases z : j = c.toNat <;> simp [z, q]
    have f2 : (fun j => if j = c.toNat then p - a c.toNat else l j) = (fun j => if j = c.toNat ∧ l c.toNat < p - a c.toNat then p - a c.toNat else l j) := by
      funext j; by_cases z : j = c.toNat <;> simp [z, q]
    rw [f1, f2]
    exact h
  · have f1 : (fun j => if j = c.toNat ∧ l c.toNat < p - a c.toNat then a c.toNat else b j) = b := by
      funext j; rw [if_neg (by omega)]
    have f2 : (fun j => if j = c.toNat ∧ l c.toNat < p - a c.toNat then p - a c.toNat else l j) = l := by
      funext j; rw [if_neg (by omega)]
    rw [f1, f2] at h
    exact h
theorem ite01 {c : Prop} [Decidable c] : ((if c then (1 : Int) else 0) ≠ 0) ↔ c := by split <;> simp_all
theorem ite01e {c : Prop} [Decidable c] : ((if c then (1 : Int) else 0) = 0) ↔ ¬ c := by split <;> simp_all
/-- what one caption's cells become where the marks turn -/
def tA (was is : Bool) (p a : Int) : Int := if is = true ∧ was = false then p else a
def tE (was is : Bool) (p a l : Int) : Bool := was && !is && decide (l < p - a)
theorem sp_turn {x y : Nat} {p : Int} {σ : ho_S} {Q : ho_K} {X : ho_X} (hx : x < 2147483648) (hy : y < 2147483648) (hp0 : 0 ≤ p) (hp1 : p ≤ 4800) (ha : ∀ c, c < 16 → 0 ≤ σ 15 c ∧ σ 15 c ≤ 4800)
    (h : ∀ a b l : Nat → Int, (∀ c, c < 16 → a c = tA (bit x c) (bit y c) p (σ 15 c) ∧ b c = (if tE (bit x c) (bit y c) p (σ 15 c) (σ 17 c) then σ 15 c else σ 16 c) ∧ l c = (if tE (bit x c) (bit y c) p (σ 15 c) (σ 17 c) then p - σ 15 c else σ 17 c)) → Q 0 (tri σ a b l)) : mX5_turn [2, (x : Int), (y : Int), p] σ Q X := by
  simp only [mX5_turn, fX5_turn, u_eC, u_eV, u_eF, u_eR, u_eI, u_eL, u_eB, u_eD, u_eM, u_eU, u_aN, u_aC, u_eK, u_eT, u_cLt, u_cLe, u_cGt, u_cGe, u_cEq, u_cNe, u_cAnd, u_cOr, u_cNot, u_zN, u_zS, u_zD, u_zL, u_zI, u_zB, u_zP, u_zF, u_zA, u_zU, u_zC, u_zR, u_zRZ, u_zRC, u_zRV, u_zT, u_zE, u_zK, u_zY, ho_nid, List.getD_cons_zero, List.getD_cons_succ, List.set_cons_zero, List.set_cons_succ, List.cons_append, List.nil_append, List.take_succ_cons, List.take_zero, Int.reduceToNat, Int.toNat_natCast, nN_0, nN_1, nN_2, nN_3, nN_4, nN_5, nN_6, nN_7, nN_8, nN_9, nN_10, nN_11, nN_12, nN_13, nN_14, nN_15, nN_16, nN_17, nN_18, nN_19, nN_20, nN_21, nN_22, nN_23, nN_24, nN_25, nN_26, nN_27, nN_28, nN_29, nN_30, nN_31, nN_32, nN_33, nN_34, nN_35, nN_36, nN_37, nN_38, nN_39, nN_40, nN_41, nN_42, nN_43, nN_44, nN_45, nN_46, nN_47, nN_48, nN_49, nN_50, nN_51, nN_52, nN_53, nN_54, nR_0_0, nR_0_1, nR_0_2, nR_0_3, nR_0_4, nR_0_5, nR_0_6, nR_0_7, nR_0_8, nR_0_9, nR_0_10, nR_1_0, nR_1_1, nR_1_2, nR_1_3, nR_1_4, nR_2_0, nR_2_1, nR_2_2, nR_2_3, nR_2_4, nR_3_0, nR_3_1, nR_4_2, nR_5_2, nR_6_0, nR_6_1, nR_6_2, nR_7_0, nR_30_2, nR_30_3, nR_30_4, nR_30_6, nR_30_7, nR_30_9, nR_30_10, nR_30_11, nR_30_12, nR_30_13, nR_30_14, nR_30_15, nR_30_16, nR_30_18, nR_30_19, nR_30_20, nR_30_21, nR_30_22, nR_30_23, nR_30_24, nR_30_28, nR_30_29, nR_30_31]
  refine zW_rule (fun v σ' m => ∃ k : Nat, k ≤ 16 ∧ v = [2, (x : Int), (y : Int), p, (k : Int)] ∧ m = 16 - k ∧ ∃ a b l : Nat → Int, σ' = tri σ a b l ∧ (∀ c, c < k → a c = tA (bit x c) (bit y c) p (σ 15 c) ∧ b c = (if tE (bit x c) (bit y c) p (σ 15 c) (σ 17 c) then σ 15 c else σ 16 c) ∧ l c = (if tE (bit x c) (bit y c) p (σ 15 c) (σ 17 c) then p - σ 15 c else σ 17 c)) ∧ (∀ c, k ≤ c → a c = σ 15 c ∧ b c = σ 16 c ∧ l c = σ 17 c)) _ ⟨0, by omega, rfl, rfl, σ 15, σ 16, σ 17, tri_id.symm, fun c hc => by omega, fun c _ => ⟨rfl, rfl, rfl⟩⟩ ?_
  rintro v σ' m ⟨k, hk16, rfl, rfl, a, b, l, rfl, h1, h2⟩ KK KE hKK hKE
  simp only [u_eC, u_eV, u_eF, u_eR, u_eI, u_eL, u_eB, u_eD, u_eM, u_eU, u_aN, u_aC, u_eK, u_eT, u_cLt, u_cLe, u_cGt, u_cGe, u_cEq, u_cNe, u_cAnd, u_cOr, u_cNot, u_zN, u_zS, u_zD, u_zL, u_zI, u_zB, u_zP, u_zF, u_zA, u_zU, u_zC, u_zR, u_zRZ, u_zRC, u_zRV, u_zT, u_zE, u_zK, u_zY, ho_nid, List.getD_cons_zero, List.getD_cons_succ, List.set_cons_zero, List.set_cons_succ, List.cons_append, List.nil_append, List.take_succ_cons, List.take_zero, Int.reduceToNat, Int.toNat_natCast, nN_0, nN_1, nN_2, nN_3, nN_4, nN_5, nN_6, nN_7, nN_8, nN_9, nN_10, nN_11, nN_12, nN_13, nN_14, nN_15, nN_16, nN_17, nN_18, nN_19, nN_20, nN_21, nN_22, nN_23, nN_24, nN_25, nN_26, nN_27, nN_28, nN_29, nN_30, nN_31, nN_32, nN_33, nN_34, nN_35, nN_36, nN_37, nN_38, nN_39, nN_40, nN_41, nN_42, nN_43, nN_44, nN_45, nN_46, nN_47, nN_48, nN_49, nN_50, nN_51, nN_52, nN_53, nN_54, nR_0_0, nR_0_1, nR_0_2, nR_0_3, nR_0_4, nR_0_5, nR_0_6, nR_0_7, nR_0_8, nR_0_9, nR_0_10, nR_1_0, nR_1_1, nR_1_2, nR_1_3, nR_1_4, nR_2_0, nR_2_1, nR_2_2, nR_2_3, nR_2_4, nR_3_0, nR_3_1, nR_4_2, nR_5_2, nR_6_0, nR_6_1, nR_6_2, nR_7_0, nR_30_2, nR_30_3, nR_30_4, nR_30_6, nR_30_7, nR_30_9, nR_30_10, nR_30_11, nR_30_12, nR_30_13, nR_30_14, nR_30_15, nR_30_16, nR_30_18, nR_30_19, nR_30_20, nR_30_21, nR_30_22, nR_30_23, nR_30_24, nR_30_28, nR_30_29, nR_30_31, sp_isMarked, sp_store]
  refine ⟨fun c1 => ?_, fun c1 => hKE _ (h a b l (fun c hc => h1 c (by omega)))⟩
  have hk : k < 16 := by omega
  have bx := and_bit (x := x) (c := k) hx (by omega)
  have by' := and_bit (x := y) (c := k) hy (by omega)
  simp only [bx, by', ite01, ite01e]
  obtain ⟨g1, g2, g3⟩ := h2 k (Nat.le_refl _)
  have hak := ha k hk
  have done : ∀ a' b' l' : Nat → Int, (∀ c, c ≠ k → a' c = a c ∧ b' c = b c ∧ l' c = l c) → (a' k = tA (bit x k) (bit y k) p (σ 15 k) ∧ b' k = (if tE (bit x k) (bit y k) p (σ 15 k) (σ 17 k) then σ 15 k else σ 16 k) ∧ l' k = (if tE (bit x k) (bit y k) p (σ 15 k) (σ 17 k) then p - σ 15 k else σ 17 k)) → KK [2, (x : Int), (y : Int), p, ho_w ((k : Int) + 1)] (tri σ a' b' l') := by
    intro a' b' l' ho hk9
    refine hKK _ _ (16 - (k + 1)) (by omega) ⟨k + 1, by omega, ?_, rfl, a', b', l', rfl, fun c hc => ?_, fun c hc => ?_⟩
    · rw [wE (by omega) (by omega)]; simp
    · by_cases q : c = k
      · subst q; exact hk9
      · rw [(ho c q).1, (ho c q).2.1, (ho c q).2.2]
        exact h1 c (by omega)
    · rw [(ho c (by omega)).1, (ho c (by omega)).2.1, (ho c (by omega)).2.2]
      exact h2 c (by omega)
  have kn : ((k : Int)).toNat = k := by omega
  cases hb : bit x k <;> cases hc : bit y k
  · simp only [Bool.false_eq_true, false_implies, not_false_eq_true, true_implies, and_self, and_true, true_and]
    exact done a b l (fun c _ => ⟨rfl, rfl, rfl⟩) (by simp [hb, hc, tA, tE, g1, g2, g3])
  · simp only [Bool.false_eq_true, false_implies, not_false_eq_true, true_implies, not_true_eq_false, and_self, and_true, true_and]
    rw [si_in (by omega) (by show (k : Int) < (16 : Int); omega)]
    have e : ho_up (tri σ a b l) (Int.toNat 15) (Int.toNat (k : Int)) p = tri σ (fun j => if j = k then p else a j) b l := by rw [kn]; exact tri15
    rw [e]
    exact done _ b l (fun c hc => ⟨if_neg hc, rfl, rfl⟩) (by simp [hb, hc, tA, tE, g2, g3])
  · simp only [Bool.false_eq_true, false_implies, not_false_eq_true, true_implies, not_true_eq_false, and_self, and_true, true_and]
    refine sp_endRun (by omega) (by omega) hp0 hp1 (by rw [kn, g1]; exact hak.1) (by rw [kn, g1]; exact hak.2) ?_
    refine done a _ _ (fun c hc => ⟨rfl, if_neg (fun z => hc (by omega)), if_neg (fun z => hc (by omega))⟩) ?_
    rw [kn]
    simp [hb, hc, tA, tE, g1, g2, g3]
  · simp only [Bool.false_eq_true, false_implies, not_false_eq_true, true_implies, not_true_eq_false, and_self, and_true, true_and]
    exact done a b l (fun c _ => ⟨rfl, rfl, rfl⟩) (by simp [hb, hc, tA, tE, g1, g2, g3])
theorem sp_takeLongest {σ : ho_S} {Q : ho_K} {X : ho_X}
    (h : Q (cnt (fun c => decide (σ 16 c ≠ σ 13 c) || decide (σ 17 c ≠ σ 14 c)) 16) (sa (sa σ 13 (fun c => if c < 16 then σ 16 c else σ 13 c)) 14 (fun c => if c < 16 then σ 17 c else σ 14 c))) : mX5_takeLongest [2] σ Q X := by
  simp only [mX5_takeLongest, fX5_takeLongest, u_eC, u_eV, u_eF, u_eR, u_eI, u_eL, u_eB, u_eD, u_eM, u_eU, u_aN, u_aC, u_eK, u_eT, u_cLt, u_cLe, u_cGt, u_cGe, u_cEq, u_cNe, u_cAnd, u_cOr, u_cNot, u_zN, u_zS, u_zD, u_zL, u_zI, u_zB, u_zP, u_zF, u_zA, u_zU, u_zC, u_zR, u_zRZ, u_zRC, u_zRV, u_zT, u_zE, u_zK, u_zY, ho_nid, List.getD_cons_zero, List.getD_cons_succ, List.set_cons_zero, List.set_cons_succ, List.cons_append, List.nil_append, List.take_succ_cons, List.take_zero, Int.reduceToNat, Int.toNat_natCast, nN_0, nN_1, nN_2, nN_3, nN_4, nN_5, nN_6, nN_7, nN_8, nN_9, nN_10, nN_11, nN_12, nN_13, nN_14, nN_15, nN_16, nN_17, nN_18, nN_19, nN_20, nN_21, nN_22, nN_23, nN_24, nN_25, nN_26, nN_27, nN_28, nN_29, nN_30, nN_31, nN_32, nN_33, nN_34, nN_35, nN_36, nN_37, nN_38, nN_39, nN_40, nN_41, nN_42, nN_43, nN_44, nN_45, nN_46, nN_47, nN_48, nN_49, nN_50, nN_51, nN_52, nN_53, nN_54, nR_0_0, nR_0_1, nR_0_2, nR_0_3, nR_0_4, nR_0_5, nR_0_6, nR_0_7, nR_0_8, nR_0_9, nR_0_10, nR_1_0, nR_1_1, nR_1_2, nR_1_3, nR_1_4, nR_2_0, nR_2_1, nR_2_2, nR_2_3, nR_2_4, nR_3_0, nR_3_1, nR_4_2, nR_5_2, nR_6_0, nR_6_1, nR_6_2, nR_7_0, nR_30_2, nR_30_3, nR_30_4, nR_30_6, nR_30_7, nR_30_9, nR_30_10, nR_30_11, nR_30_12, nR_30_13, nR_30_14, nR_30_15, nR_30_16, nR_30_18, nR_30_19, nR_30_20, nR_30_21, nR_30_22, nR_30_23, nR_30_24, nR_30_28, nR_30_29, nR_30_31]
  refine zW_rule (fun v σ' m => ∃ k : Nat, k ≤ 16 ∧ v = [2, cnt (fun c => decide (σ 16 c ≠ σ 13 c) || decide (σ 17 c ≠ σ 14 c)) k, (k : Int)] ∧ m = 16 - k ∧ ∃ a b : Nat → Int, σ' = sa (sa σ 13 a) 14 b ∧ (∀ c, c < k → a c = σ 16 c ∧ b c = σ 17 c) ∧ (∀ c, k ≤ c → a c = σ 13 c ∧ b c = σ 14 c)) _ ⟨0, by omega, rfl, rfl, σ 13, σ 14, by
    funext q j
    unfold sa
    by_cases h1 : q = 14
    · subst h1; simp
    · by_cases h2 : q = 13
      · subst h2; simp
      · simp [h1, h2], fun c hc => by omega, fun c _ => ⟨rfl, rfl⟩⟩ ?_
  rintro v σ' m ⟨k, hk16, rfl, rfl, a, b, rfl, h1, h2⟩ KK KE hKK hKE
  simp only [u_eC, u_eV, u_eF, u_eR, u_eI, u_eL, u_eB, u_eD, u_eM, u_eU, u_aN, u_aC, u_eK, u_eT, u_cLt, u_cLe, u_cGt, u_cGe, u_cEq, u_cNe, u_cAnd, u_cOr, u_cNot, u_zN, u_zS, u_zD, u_zL, u_zI, u_zB, u_zP, u_zF, u_zA, u_zU, u_zC, u_zR, u_zRZ, u_zRC, u_zRV, u_zT, u_zE, u_zK, u_zY, ho_nid, List.getD_cons_zero, List.getD_cons_succ, List.set_cons_zero, List.set_cons_succ, List.cons_append, List.nil_append, List.take_succ_cons, List.take_zero, Int.reduceToNat, Int.toNat_natCast, nN_0, nN_1, nN_2, nN_3, nN_4, nN_5, nN_6, nN_7, nN_8, nN_9, nN_10, nN_11, nN_12, nN_13, nN_14, nN_15, nN_16, nN_17, nN_18, nN_19, nN_20, nN_21, nN_22, nN_23, nN_24, nN_25, nN_26, nN_27, nN_28, nN_29, nN_30, nN_31, nN_32, nN_33, nN_34, nN_35, nN_36, nN_37, nN_38, nN_39, nN_40, nN_41, nN_42, nN_43, nN_44, nN_45, nN_46, nN_47, nN_48, nN_49, nN_50, nN_51, nN_52, nN_53, nN_54, nR_0_0, nR_0_1, nR_0_2, nR_0_3, nR_0_4, nR_0_5, nR_0_6, nR_0_7, nR_0_8, nR_0_9, nR_0_10, nR_1_0, nR_1_1, nR_1_2, nR_1_3, nR_1_4, nR_2_0, nR_2_1, nR_2_2, nR_2_3, nR_2_4, nR_3_0, nR_3_1, nR_4_2, nR_5_2, nR_6_0, nR_6_1, nR_6_2, nR_7_0, nR_30_2, nR_30_3, nR_30_4, nR_30_6, nR_30_7, nR_30_9, nR_30_10, nR_30_11, nR_30_12, nR_30_13, nR_30_14, nR_30_15, nR_30_16, nR_30_18, nR_30_19, nR_30_20, nR_30_21, nR_30_22, nR_30_23, nR_30_24, nR_30_28, nR_30_29, nR_30_31, sp_item, sp_tstart, sp_tlength, sp_tset]
  refine ⟨fun c1 => ?_, fun c1 => hKE _ ?_⟩
  · have hk : k < 16 := by omega
    have kn : ((k : Int)).toNat = k := by omega
    have hc0 := cnt_range (fun c => decide (σ 16 c ≠ σ 13 c) || decide (σ 17 c ≠ σ 14 c)) k
    have e0 : ∀ r : Int, (ho_N r.toNat : Int) = 16 → gi (sa (sa σ 13 a) 14 b) r (k : Int) = (sa (sa σ 13 a) 14 b) r.toNat k := fun r hr => by
      rw [gi_in (by omega) (by rw [hr]; omega), kn]
    rw [e0 16 rfl, e0 17 rfl, e0 13 rfl, e0 14 rfl]
    show ((σ 16 k ≠ a k → _) ∧ (σ 16 k = a k → (σ 17 k ≠ b k → _) ∧ (σ 17 k = b k → _)))
    obtain ⟨g1, g2⟩ := h2 k (Nat.le_refl _)
    rw [g1, g2]
    have e2 : si (si (sa (sa σ 13 a) 14 b) 13 (k : Int) (σ 16 k)) 14 (k : Int) (σ 17 k) = sa (sa σ 13 (fun j => if j = k then σ 16 k else a j)) 14 (fun j => if j = k then σ 17 k else b j) := by
      rw [si_in (by omega) (by show (k : Int) < (16 : Int); omega), si_in (by omega) (by show (k : Int) < (16 : Int); omega), kn]
      funext q j
      show ho_up (ho_up (sa (sa σ 13 a) 14 b) 13 k (σ 16 k)) 14 k (σ 17 k) q j = _
      unfold ho_up sa
      by_cases z1 : q = 14
      · subst z1; simp
      · by_cases z2 : q = 13
        · subst z2; simp
        · simp [z1, z2]
    have go : ∀ x : Int, x = cnt (fun c => decide (σ 16 c ≠ σ 13 c) || decide (σ 17 c ≠ σ 14 c)) (k + 1) → ∀ a' b' : Nat → Int, (∀ c, c ≠ k → a' c = a c ∧ b' c = b c) → (a' k = σ 16 k ∧ b' k = σ 17 k) → KK [2, x, ho_w ((k : Int) + 1)] (sa (sa σ 13 a') 14 b') := by
      intro x hx a' b' ho hk9
      refine hKK _ _ (16 - (k + 1)) (by omega) ⟨k + 1, by omega, ?_, rfl, a', b', rfl, fun c hc => ?_, fun c hc => ?_⟩
      · rw [wE (by omega) (by omega), hx]; simp
      · by_cases q : c = k
        · subst q; exact hk9
        · rw [(ho c q).1, (ho c q).2]; exact h1 c (by omega)
      · rw [(ho c (by omega)).1, (ho c (by omega)).2]; exact h2 c (by omega)
    have yes : (σ 16 k ≠ σ 13 k ∨ σ 17 k ≠ σ 14 k) → KK [2, ho_w (cnt (fun c => decide (σ 16 c ≠ σ 13 c) || decide (σ 17 c ≠ σ 14 c)) k + 1), ho_w ((k : Int) + 1)] (si (si (sa (sa σ 13 a) 14 b) 13 (k : Int) (σ 16 k)) 14 (k : Int) (σ 17 k)) := by
      intro q
      rw [e2]
      refine go _ ?_ _ _ (fun c hc => ⟨if_neg hc, if_neg hc⟩) ⟨if_pos rfl, if_pos rfl⟩
      rw [wE (by omega) (by omega)]
      show _ = cnt _ k + (if _ then 1 else 0)
      rw [if_pos (by rcases q with q | q <;> simp [q])]
    refine ⟨fun q => yes (Or.inl q), fun q => ⟨fun q2 => yes (Or.inr q2), fun q2 => ?_⟩⟩
    refine go _ ?_ a b (fun c hc => ⟨rfl, rfl⟩) ⟨by rw [g1, q], by rw [g2, q2]⟩
    show _ = cnt _ k + (if _ then 1 else 0)
    rw [if_neg (by simp [q, q2])]
    omega
  · have hk : k = 16 := by omega
    subst hk
    have e : sa (sa σ 13 a) 14 b = sa (sa σ 13 (fun c => if c < 16 then σ 16 c else σ 13 c)) 14 (fun c => if c < 16 then σ 17 c else σ 14 c) := by
      have f1 : a = fun c => if c < 16 then σ 16 c else σ 13 c := by
        funext c
        by_cases q : c < 16
        · rw [if_pos q]; exact (h1 c q).1
        · rw [if_neg q]; exact (h2 c (by omega)).1
      have f2 : b = fun c => if c < 16 then σ 17 c else σ 14 c := by
        funext c
        by_cases q : c < 16
        · rw [if_pos q]; exact (h1 c q).2
        · rw [if_neg q]; exact (h2 c (by omega)).2
      rw [f1, f2]
    rw [e]
    exact h
theorem sp_afill {r x : Int} {σ : ho_S} {Q : ho_K} {X : ho_X} (hN : (ho_N r.toNat : Int) < 100000) (h : Q 0 (sa σ r.toNat (fun j => if j < ho_N r.toNat then x else σ r.toNat j))) : mJ7_fill_53178 [r, x] σ Q X := by
  simp only [mJ7_fill_53178, fJ7_fill_53178, u_eC, u_eV, u_eF, u_eR, u_eI, u_eL, u_eB, u_eD, u_eM, u_eU, u_aN, u_aC, u_eK, u_eT, u_cLt, u_cLe, u_cGt, u_cGe, u_cEq, u_cNe, u_cAnd, u_cOr, u_cNot, u_zN, u_zS, u_zD, u_zL, u_zI, u_zB, u_zP, u_zF, u_zA, u_zU, u_zC, u_zR, u_zRZ, u_zRC, u_zRV, u_zT, u_zE, u_zK, u_zY, ho_nid, List.getD_cons_zero, List.getD_cons_succ, List.set_cons_zero, List.set_cons_succ, List.cons_append, List.nil_append, List.take_succ_cons, List.take_zero, Int.reduceToNat, Int.toNat_natCast, nN_0, nN_1, nN_2, nN_3, nN_4, nN_5, nN_6, nN_7, nN_8, nN_9, nN_10, nN_11, nN_12, nN_13, nN_14, nN_15, nN_16, nN_17, nN_18, nN_19, nN_20, nN_21, nN_22, nN_23, nN_24, nN_25, nN_26, nN_27, nN_28, nN_29, nN_30, nN_31, nN_32, nN_33, nN_34, nN_35, nN_36, nN_37, nN_38, nN_39, nN_40, nN_41, nN_42, nN_43, nN_44, nN_45, nN_46, nN_47, nN_48, nN_49, nN_50, nN_51, nN_52, nN_53, nN_54, nR_0_0, nR_0_1, nR_0_2, nR_0_3, nR_0_4, nR_0_5, nR_0_6, nR_0_7, nR_0_8, nR_0_9, nR_0_10, nR_1_0, nR_1_1, nR_1_2, nR_1_3, nR_1_4, nR_2_0, nR_2_1, nR_2_2, nR_2_3, nR_2_4, nR_3_0, nR_3_1, nR_4_2, nR_5_2, nR_6_0, nR_6_1, nR_6_2, nR_7_0, nR_30_2, nR_30_3, nR_30_4, nR_30_6, nR_30_7, nR_30_9, nR_30_10, nR_30_11, nR_30_12, nR_30_13, nR_30_14, nR_30_15, nR_30_16, nR_30_18, nR_30_19, nR_30_20, nR_30_21, nR_30_22, nR_30_23, nR_30_24, nR_30_28, nR_30_29, nR_30_31]
  refine zW_rule (fun v σ' m => ∃ k : Nat, k ≤ ho_N r.toNat ∧ v = [r, x, (k : Int), (ho_N r.toNat : Int)] ∧ m = ho_N r.toNat - k ∧ σ' = sa σ r.toNat (fun j => if j < k then x else σ r.toNat j)) _ ⟨0, by omega, rfl, rfl, by
    rw [show (fun j => if j < 0 then x else σ r.toNat j) = σ r.toNat from funext fun j => if_neg (by omega), sa_id]⟩ ?_
  rintro v σ' m ⟨k, hk, rfl, rfl, rfl⟩ KK KE hKK hKE
  simp only [u_eC, u_eV, u_eF, u_eR, u_eI, u_eL, u_eB, u_eD, u_eM, u_eU, u_aN, u_aC, u_eK, u_eT, u_cLt, u_cLe, u_cGt, u_cGe, u_cEq, u_cNe, u_cAnd, u_cOr, u_cNot, u_zN, u_zS, u_zD, u_zL, u_zI, u_zB, u_zP, u_zF, u_zA, u_zU, u_zC, u_zR, u_zRZ, u_zRC, u_zRV, u_zT, u_zE, u_zK, u_zY, ho_nid, List.getD_cons_zero, List.getD_cons_succ, List.set_cons_zero, List.set_cons_succ, List.cons_append, List.nil_append, List.take_succ_cons, List.take_zero, Int.reduceToNat, Int.toNat_natCast, nN_0, nN_1, nN_2, nN_3, nN_4, nN_5, nN_6, nN_7, nN_8, nN_9, nN_10, nN_11, nN_12, nN_13, nN_14, nN_15, nN_16, nN_17, nN_18, nN_19, nN_20, nN_21, nN_22, nN_23, nN_24, nN_25, nN_26, nN_27, nN_28, nN_29, nN_30, nN_31, nN_32, nN_33, nN_34, nN_35, nN_36, nN_37, nN_38, nN_39, nN_40, nN_41, nN_42, nN_43, nN_44, nN_45, nN_46, nN_47, nN_48, nN_49, nN_50, nN_51, nN_52, nN_53, nN_54, nR_0_0, nR_0_1, nR_0_2, nR_0_3, nR_0_4, nR_0_5, nR_0_6, nR_0_7, nR_0_8, nR_0_9, nR_0_10, nR_1_0, nR_1_1, nR_1_2, nR_1_3, nR_1_4, nR_2_0, nR_2_1, nR_2_2, nR_2_3, nR_2_4, nR_3_0, nR_3_1, nR_4_2, nR_5_2, nR_6_0, nR_6_1, nR_6_2, nR_7_0, nR_30_2, nR_30_3, nR_30_4, nR_30_6, nR_30_7, nR_30_9, nR_30_10, nR_30_11, nR_30_12, nR_30_13, nR_30_14, nR_30_15, nR_30_16, nR_30_18, nR_30_19, nR_30_20, nR_30_21, nR_30_22, nR_30_23, nR_30_24, nR_30_28, nR_30_29, nR_30_31]
  refine ⟨fun c1 => ⟨by omega, hKK _ _ (ho_N r.toNat - (k + 1)) (by omega) ⟨k + 1, by omega, ?_, rfl, ?_⟩⟩, fun c1 => hKE _ ?_⟩
  · rw [wE (by omega) (by omega)]; simp
  · rw [sa_up]
    refine sa_congr fun j => ?_
    by_cases q : j = k
    · subst q; rw [if_pos rfl, if_pos (by omega)]
    · rw [if_neg q]
      by_cases q2 : j < k
      · rw [if_pos q2, if_pos (by omega)]
      · rw [if_neg q2, if_neg (by omega)]
  · have : k = ho_N r.toNat := by omega
    subst this
    exact h
