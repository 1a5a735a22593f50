theorem ins_ok {k' F' : Nat → Int} {σ : ho_S} {N n p s f : Nat} (hs : s < 12) (hfn : f + n ≤ 400) (old : FR (σ 8) (σ 34) N) (inj : ∀ i i', i < N → i' < N → σ 34 i = σ 34 i' → i = i') (fresh : ∀ i q, i < N → q < n → σ 34 i ≠ ((400 * s + f + q : Nat) : Int)) (hk : ∀ i, i < N + n → k' i = if i < p then σ 8 i else if i < p + n then ((401 * s + f + (i - p) : Nat) : Int) else σ 8 (i - n)) (hF : ∀ i, F' i = if i < p then σ 34 i else if i < p + n then ((400 * s + f + (i - p) : Nat) : Int) else σ 34 (i - n)) (hp : p ≤ N) : FR k' F' (N + n) ∧ ∀ i i', i < N + n → i' < N + n → F' i = F' i' → i = i' := by
  have fc : ∀ i, i < N + n → (i < p ∧ F' i = σ 34 i) ∨ (p ≤ i ∧ i < p + n ∧ F' i = ((400 * s + f + (i - p) : Nat) : Int)) ∨ (p + n ≤ i ∧ F' i = σ 34 (i - n)) := fun i hi => by
    rw [hF]
    by_cases q1 : i < p
    · rw [if_pos q1]; exact Or.inl ⟨q1, rfl⟩
    · rw [if_neg q1]
      by_cases q2 : i < p + n
      · rw [if_pos q2]; exact Or.inr (Or.inl ⟨by omega, q2, rfl⟩)
      · rw [if_neg q2]; exact Or.inr (Or.inr ⟨by omega, rfl⟩)
  refine ⟨fun i hi => ?_, fun i i' hi hi' e => ?_⟩
  · rw [hk i hi]
    rcases fc i hi with ⟨a, b⟩ | ⟨a, b, c⟩ | ⟨a, b⟩
    · rw [if_pos a, b]; exact old i (by omega)
    · rw [if_neg (by omega), if_pos b, c]; omega
    · rw [if_neg (by omega), if_neg (by omega), b]; exact old (i - n) (by omega)
  · rcases fc i hi with ⟨a, b⟩ | ⟨a, b, c⟩ | ⟨a, b⟩
    · rcases fc i' hi' with ⟨a', b'⟩ | ⟨a', b', c'⟩ | ⟨a', b'⟩
      · exact inj i i' (by omega) (by omega) (by omega)
      · exact absurd (by omega) (fresh i (i' - p) (by omega) (by omega))
      · have := inj i (i' - n) (by omega) (by omega) (by omega); omega
    · rcases fc i' hi' with ⟨a', b'⟩ | ⟨a', b', c'⟩ | ⟨a', b'⟩
      · exact absurd (by omega) (fresh i' (i - p) (by omega) (by omega))
      · omega
      · exact absurd (by omega) (fresh (i' - n) (i - p) (by omega) (by omega))
    · rcases fc i' hi' with ⟨a', b'⟩ | ⟨a', b', c'⟩ | ⟨a', b'⟩
      · have := inj (i - n) i' (by omega) (by omega) (by omega); omega
      · exact absurd (by omega) (fresh (i - n) (i' - p) (by omega) (by omega))
      · have := inj (i - n) (i' - n) (by omega) (by omega) (by omega); omega
theorem ins_plc {k' F' : Nat → Int} {σ : ho_S} {N n p s f : Nat} {x : Int} (hx : 0 ≤ x) (hp : p ≤ N) (kFR : FR k' F' (N + n)) (Finj : ∀ i i', i < N + n → i' < N + n → F' i = F' i' → i = i') (hk : ∀ i, i < N + n → k' i = if i < p then σ 8 i else if i < p + n then ((401 * s + f + (i - p) : Nat) : Int) else σ 8 (i - n)) (po : (∃ i, p ≤ i ∧ i < N + n ∧ k' i = x) ∨ PLC (σ 8) N x (σ 10 x.toNat)) : PLC k' (N + n) x (rnum k' (σ 10) p (N + n - p) x.toNat) := by
  refine plc_rn (k' := k') (pl := σ 10) (a := p) (N' := N + n) hx (by omega) (fun i hi => by have := kFR i hi; omega) (fun i i' hi hi' e => by
    have u := kFR i hi
    have v := kFR i' hi'
    exact Finj i i' hi hi' (by omega)) (fun no => ?_)
  rcases po with ⟨i, i1, i2, i3⟩ | ⟨i0, i1, i2, i3⟩ | ⟨i1, i2⟩
  · exact absurd i3 (no i i1 i2)
  · by_cases y : i0 < p
    · exact Or.inl ⟨i0, y, by rw [hk i0 (by omega), if_pos y]; exact i2, i3⟩
    · exact absurd (by rw [hk (i0 + n) (by omega), if_neg (by omega), if_neg (by omega), show i0 + n - n = i0 by omega]; exact i2) (no (i0 + n) (by omega) (by omega))
  · exact Or.inr ⟨fun i hi e => i1 i (by omega) (by rw [hk i (by omega), if_pos hi] at e; exact e), i2⟩

theorem pFi_35 : ∀ k j, pFi k j = false → Nat.beq k 35 = false := fun k j z => by
  unfold pFi pSc at z
  cases a : Nat.beq k 35 <;> simp [a] at z ⊢
theorem pb_stop {σ : ho_S} {s f n p e : Int} {body : ho_Z} {K : List Int → ho_S → Prop} {R : ho_K} {X : ho_X} (he : 0 < e) (h : K [30, s, f, n, p, 0] (ho_up σ 30 0 e)) : zW (cAnd (cEq (eF (eV 0) 0) (eC 0)) (cLt (eV 5) (eV 3))) body [30, s, f, n, p, 0] (ho_up σ 30 0 e) K R X := by
  refine zW_rule (fun v σ2 m => v = [30, s, f, n, p, 0] ∧ σ2 = ho_up σ 30 0 e ∧ m = 0) _ ⟨rfl, rfl, rfl⟩ ?_
  rintro v σ2 m ⟨rfl, rfl, rfl⟩ K2 KE2 hK2 hE2
  simp only [u_eC, u_eV, u_eF, u_eR, u_eI, u_eL, u_eB, u_eD, u_eM, u_eU, u_aN, u_aC, u_eK, u_eT, u_cLt, u_cLe, u_cGt, u_cGe, u_cEq, u_cNe, u_cAnd, u_cOr, u_cNot, u_zN, u_zS, u_zD, u_zL, u_zI, u_zB, u_zP, u_zF, u_zA, u_zU, u_zC, u_zR, u_zRZ, u_zRC, u_zRV, u_zT, u_zE, u_zK, u_zY, ho_nid, List.getD_cons_zero, List.getD_cons_succ, List.set_cons_zero, List.set_cons_succ, List.cons_append, List.nil_append, List.take_succ_cons, List.take_zero, Int.reduceToNat, Int.toNat_natCast, nN_0, nN_1, nN_2, nN_3, nN_4, nN_5, nN_6, nN_7, nN_8, nN_9, nN_10, nN_11, nN_12, nN_13, nN_14, nN_15, nN_16, nN_17, nN_18, nN_19, nN_20, nN_21, nN_22, nN_23, nN_24, nN_25, nN_26, nN_27, nN_28, nN_29, nN_30, nN_31, nN_32, nN_33, nN_34, nN_35, nN_36, nN_37, nN_38, nN_39, nN_40, nN_41, nN_42, nN_43, nN_44, nN_45, nN_46, nN_47, nN_48, nN_49, nN_50, nN_51, nN_52, nN_53, nN_54, nR_0_0, nR_0_1, nR_0_2, nR_0_3, nR_0_4, nR_0_5, nR_0_6, nR_0_7, nR_0_8, nR_0_9, nR_0_10, nR_1_0, nR_1_1, nR_1_2, nR_1_3, nR_1_4, nR_2_0, nR_2_1, nR_2_2, nR_2_3, nR_2_4, nR_3_0, nR_3_1, nR_4_2, nR_5_2, nR_6_0, nR_6_1, nR_6_2, nR_7_0, nR_30_2, nR_30_3, nR_30_4, nR_30_6, nR_30_7, nR_30_9, nR_30_10, nR_30_11, nR_30_12, nR_30_13, nR_30_14, nR_30_15, nR_30_16, nR_30_18, nR_30_19, nR_30_20, nR_30_21, nR_30_22, nR_30_23, nR_30_24, nR_30_28, nR_30_29, nR_30_31]
  have e0 : ho_up σ 30 0 e 30 0 = e := ho_upE
  rw [e0]
  exact ⟨fun w => by omega, fun _ => hE2 _ h⟩
theorem up_up {σ : ho_S} {k i : Nat} {x y : Int} : ho_up (ho_up σ k i x) k i y = ho_up σ k i y := by
  funext q r
  unfold ho_up
  by_cases z : q = k ∧ r = i
  · rw [if_pos z, if_pos z]
  · rw [if_neg z, if_neg z, if_neg z]
theorem pb_scan {σ : ho_S} {s f n : Nat} {p : Int} {K : List Int → ho_S → Prop} {R : ho_K} {X : ho_X} (hs : s < 12) (hfn : f + n ≤ 400)
    (hD : (∃ q, q < n ∧ σ 32 (400 * s + f + q) ≠ -1) → ∀ k : Int, K [30, (s : Int), (f : Int), (n : Int), p, k] (ho_up σ 30 0 3)) (hE : (∀ q, q < n → σ 32 (400 * s + f + q) = -1) → K [30, (s : Int), (f : Int), (n : Int), p, (n : Int)] (ho_up σ 30 0 0)) : zW (cAnd (cEq (eF (eV 0) 0) (eC 0)) (cLt (eV 5) (eV 3))) (zS (zP (eV 0) 0 (eT (cEq (eI (eR (eV 0) 3) (eB ho_oadd (eB ho_oadd (eB ho_omul (eC 400) (eV 1)) (eV 2)) (eV 5))) (eC (-1))) (eC 0) (eC 3))) (zI 5 1)) [30, (s : Int), (f : Int), (n : Int), p, 0] (ho_up σ 30 0 0) K R X := by
  refine zW_rule (fun v σ' m => ∃ k : Nat, (k ≤ n) ∧ v = [30, (s : Int), (f : Int), (n : Int), p, (k : Int)] ∧ m = n - k ∧ ((σ' = ho_up σ 30 0 0 ∧ ∀ q, q < k → σ 32 (400 * s + f + q) = -1) ∨ (σ' = ho_up σ 30 0 3 ∧ ∃ q, q < n ∧ σ 32 (400 * s + f + q) ≠ -1))) _ ⟨0, by omega, rfl, rfl, Or.inl ⟨rfl, fun q hq => by omega⟩⟩ ?_
  rintro v σ' m ⟨k, hk, rfl, rfl, h⟩ KK KE hKK hKE
  rcases h with ⟨rfl, h⟩ | ⟨rfl, h⟩
  · have e0 : ho_up σ 30 0 0 30 0 = 0 := ho_upE
    simp only [u_eC, u_eV, u_eF, u_eR, u_eI, u_eL, u_eB, u_eD, u_eM, u_eU, u_aN, u_aC, u_eK, u_eT, u_cLt, u_cLe, u_cGt, u_cGe, u_cEq, u_cNe, u_cAnd, u_cOr, u_cNot, u_zN, u_zS, u_zD, u_zL, u_zI, u_zB, u_zP, u_zF, u_zA, u_zU, u_zC, u_zR, u_zRZ, u_zRC, u_zRV, u_zT, u_zE, u_zK, u_zY, ho_nid, List.getD_cons_zero, List.getD_cons_succ, List.set_cons_zero, List.set_cons_succ, List.cons_append, List.nil_append, List.take_succ_cons, List.take_zero, Int.reduceToNat, Int.toNat_natCast, nN_0, nN_1, nN_2, nN_3, nN_4, nN_5, nN_6, nN_7, nN_8, nN_9, nN_10, nN_11, nN_12, nN_13, nN_14, nN_15, nN_16, nN_17, nN_18, nN_19, nN_20, nN_21, nN_22, nN_23, nN_24, nN_25, nN_26, nN_27, nN_28, nN_29, nN_30, nN_31, nN_32, nN_33, nN_34, nN_35, nN_36, nN_37, nN_38, nN_39, nN_40, nN_41, nN_42, nN_43, nN_44, nN_45, nN_46, nN_47, nN_48, nN_49, nN_50, nN_51, nN_52, nN_53, nN_54, nR_0_0, nR_0_1, nR_0_2, nR_0_3, nR_0_4, nR_0_5, nR_0_6, nR_0_7, nR_0_8, nR_0_9, nR_0_10, nR_1_0, nR_1_1, nR_1_2, nR_1_3, nR_1_4, nR_2_0, nR_2_1, nR_2_2, nR_2_3, nR_2_4, nR_3_0, nR_3_1, nR_4_2, nR_5_2, nR_6_0, nR_6_1, nR_6_2, nR_7_0, nR_30_2, nR_30_3, nR_30_4, nR_30_6, nR_30_7, nR_30_9, nR_30_10, nR_30_11, nR_30_12, nR_30_13, nR_30_14, nR_30_15, nR_30_16, nR_30_18, nR_30_19, nR_30_20, nR_30_21, nR_30_22, nR_30_23, nR_30_24, nR_30_28, nR_30_29, nR_30_31, e0]
    simp only [mR_30_2, mR_30_3, mR_30_4, mR_30_6, mR_30_7, mR_30_9, mR_30_10, mR_30_11, mR_30_12, mR_30_13, mR_30_14, mR_30_15, mR_30_16, mR_30_18, mR_30_19, mR_30_20, mR_30_21, mR_30_22, mR_30_23, mR_30_24, mR_30_28, mR_30_29, mR_30_31, mR_0_9, mR_7_0, nN_25, nN_26, nN_27, nN_28, nN_29, nN_30, nN_31, nN_32, nN_33, nN_34, nN_35, nN_36, nN_37, nN_38, nN_39, nN_40, nN_41, nN_42, nN_43, nN_44, nN_45, nN_46, nN_47, nN_48, nN_49, nN_50, nN_51, nN_52, nN_53, nN_54, Int.toNat_natCast, saF, saE, ho_upF, ho_upE, ne_eq, not_false_eq_true, Nat.reduceEqDiff, up_up]
    refine ⟨fun _ => ⟨fun z1 => ?_, fun z1 => ?_⟩, fun w => absurd trivial w⟩
    case refine_2 =>
      have kn : k = n := by omega
      subst kn
      exact hKE _ (hE h)
    rw [wmu (by omega) (by omega), wad (a := 400 * (s : Int)) (by omega) (by omega), wad (by omega) (by omega), inc (by omega), show 400 * (s : Int) + (f : Int) + (k : Int) = ((400 * s + f + k : Nat) : Int) by omega]
    simp only [Int.toNat_natCast]
    refine ⟨by omega, fun y => ?_, fun y => ?_⟩
    · exact hKK _ _ (n - (k + 1)) (by omega) ⟨k + 1, by omega, rfl, rfl, Or.inl ⟨rfl, fun q hq => by
        by_cases z : q = k
        · subst z; exact y
        · exact h q (by omega)⟩⟩
    · exact hKK _ _ (n - (k + 1)) (by omega) ⟨k + 1, by omega, rfl, rfl, Or.inr ⟨rfl, k, by omega, y⟩⟩
  · have e0 : ho_up σ 30 0 3 30 0 = 3 := ho_upE
    simp only [u_eC, u_eV, u_eF, u_eR, u_eI, u_eL, u_eB, u_eD, u_eM, u_eU, u_aN, u_aC, u_eK, u_eT, u_cLt, u_cLe, u_cGt, u_cGe, u_cEq, u_cNe, u_cAnd, u_cOr, u_cNot, u_zN, u_zS, u_zD, u_zL, u_zI, u_zB, u_zP, u_zF, u_zA, u_zU, u_zC, u_zR, u_zRZ, u_zRC, u_zRV, u_zT, u_zE, u_zK, u_zY, ho_nid, List.getD_cons_zero, List.getD_cons_succ, List.set_cons_zero, List.set_cons_succ, List.cons_append, List.nil_append, List.take_succ_cons, List.take_zero, Int.reduceToNat, Int.toNat_natCast, nN_0, nN_1, nN_2, nN_3, nN_4, nN_5, nN_6, nN_7, nN_8, nN_9, nN_10, nN_11, nN_12, nN_13, nN_14, nN_15, nN_16, nN_17, nN_18, nN_19, nN_20, nN_21, nN_22, nN_23, nN_24, nN_25, nN_26, nN_27, nN_28, nN_29, nN_30, nN_31, nN_32, nN_33, nN_34, nN_35, nN_36, nN_37, nN_38, nN_39, nN_40, nN_41, nN_42, nN_43, nN_44, nN_45, nN_46, nN_47, nN_48, nN_49, nN_50, nN_51, nN_52, nN_53, nN_54, nR_0_0, nR_0_1, nR_0_2, nR_0_3, nR_0_4, nR_0_5, nR_0_6, nR_0_7, nR_0_8, nR_0_9, nR_0_10, nR_1_0, nR_1_1, nR_1_2, nR_1_3, nR_1_4, nR_2_0, nR_2_1, nR_2_2, nR_2_3, nR_2_4, nR_3_0, nR_3_1, nR_4_2, nR_5_2, nR_6_0, nR_6_1, nR_6_2, nR_7_0, nR_30_2, nR_30_3, nR_30_4, nR_30_6, nR_30_7, nR_30_9, nR_30_10, nR_30_11, nR_30_12, nR_30_13, nR_30_14, nR_30_15, nR_30_16, nR_30_18, nR_30_19, nR_30_20, nR_30_21, nR_30_22, nR_30_23, nR_30_24, nR_30_28, nR_30_29, nR_30_31, e0]
    exact ⟨fun w => absurd w (by omega), fun _ => hKE _ (hD h _)⟩
theorem same_out {σ : ho_S} {S N s f : Nat} (h2 : GF S N σ) (h3 : GPc S N σ) (h4 : GPm S N σ) (hs : s < S) (hf : (f : Int) < σ 31 s) : σ 10 (401 * s + f) = -1 ↔ σ 32 (400 * s + f) = -1 := by
  have fr := h2.2.2.1 s hs
  have old := h2.2.2.2.1
  have a := h3 s f hs hf
  have b := h4 s f hs hf
  refine ⟨fun e => ?_, fun e => ?_⟩
  · rcases a with ⟨i, i1, i2, i3⟩ | ⟨i1, i2⟩
    · omega
    · rcases b with ⟨k, k1, k2, k3⟩ | ⟨k1, k2⟩
      · have o := old k k1
        exact absurd (show σ 8 k = ((401 * s + f : Nat) : Int) by omega) (i1 k k1)
      · exact k2
  · rcases b with ⟨i, i1, i2, i3⟩ | ⟨i1, i2⟩
    · omega
    · rcases a with ⟨k, k1, k2, k3⟩ | ⟨k1, k2⟩
      · have o := old k k1
        exact absurd (show σ 34 k = ((400 * s + f : Nat) : Int) by omega) (i1 k k1)
      · exact k2

theorem op_putBack {j : Nat} {σ : ho_S} {s f n p : Int} (hj : j < 512) (hI : hi_Inv j σ) : mX6_putBack [0, s, f, n, p] σ (fun a σ => mX7_putBack [30, s, f, n, p] (ho_up σ 54 0 a) (fun b σ => σ 30 0 = 0 ∧ σ 54 0 = b ∧ hi_Inv (j + 1) σ) (fun _ _ => False)) (fun ec σ => (ec = 2 ∧ mX7_putBack [30, s, f, n, p] σ (fun _ σ => σ 30 0 = 1 ∧ hi_Inv (j + 1) σ) (fun _ _ => False)) ∨ (ec = 0 ∧ mX7_putBack [30, s, f, n, p] σ (fun _ σ => σ 30 0 = 2 ∧ hi_Inv (j + 1) σ) (fun _ _ => False)) ∨ (ec = 1 ∧ mX7_putBack [30, s, f, n, p] σ (fun _ σ => σ 30 0 = 3 ∧ hi_Inv (j + 1) σ) (fun _ _ => False))) := by
  have hI0 := hI
  obtain ⟨_, S, N, M, h1, h2, h3, h4, h5, h6, h7, h8, h9, h10, h11, h12, h13⟩ := hI
  have hM := h1.2.2.2.2.2.2
  have hN : N ≤ 4800 := by have := h2.1; have := h2.2.1; omega
  have e5 := h1.2.2.2.1
  have e31 := h1.2.1
  have fr31 : ∀ q : Nat, (q : Int) < σ 30 1 → 1 ≤ σ 31 q ∧ σ 31 q ≤ 400 := fun q hq => (h2.2.2.1 q (by omega)).2
  have isf := fun (Q : ho_K) (X : ho_X) => sp_isFrame (σ := σ) (s := s) (f := f) (Q := Q) (X := X) (by rw [e31]; omega) (by rw [e31]; have := h2.1; omega) fr31
  rw [e31] at isf
  have thr1 : ¬ (0 ≤ s ∧ s < (S : Int) ∧ 0 ≤ f ∧ f < σ 31 s.toNat) → mX7_putBack [30, s, f, n, p] σ (fun _ σ => σ 30 0 = 1 ∧ hi_Inv (j + 1) σ) (fun _ _ => False) := by
    intro c
    simp only [mX7_putBack, fX7_putBack, u_eC, u_eV, u_eF, u_eR, u_eI, u_eL, u_eB, u_eD, u_eM, u_eU, u_aN, u_aC, u_eK, u_eT, u_cLt, u_cLe, u_cGt, u_cGe, u_cEq, u_cNe, u_cAnd, u_cOr, u_cNot, u_zN, u_zS, u_zD, u_zL, u_zI, u_zB, u_zP, u_zF, u_zA, u_zU, u_zC, u_zR, u_zRZ, u_zRC, u_zRV, u_zT, u_zE, u_zK, u_zY, ho_nid, List.getD_cons_zero, List.getD_cons_succ, List.set_cons_zero, List.set_cons_succ, List.cons_append, List.nil_append, List.take_succ_cons, List.take_zero, Int.reduceToNat, Int.toNat_natCast, nN_0, nN_1, nN_2, nN_3, nN_4, nN_5, nN_6, nN_7, nN_8, nN_9, nN_10, nN_11, nN_12, nN_13, nN_14, nN_15, nN_16, nN_17, nN_18, nN_19, nN_20, nN_21, nN_22, nN_23, nN_24, nN_25, nN_26, nN_27, nN_28, nN_29, nN_30, nN_31, nN_32, nN_33, nN_34, nN_35, nN_36, nN_37, nN_38, nN_39, nN_40, nN_41, nN_42, nN_43, nN_44, nN_45, nN_46, nN_47, nN_48, nN_49, nN_50, nN_51, nN_52, nN_53, nN_54, nR_0_0, nR_0_1, nR_0_2, nR_0_3, nR_0_4, nR_0_5, nR_0_6, nR_0_7, nR_0_8, nR_0_9, nR_0_10, nR_1_0, nR_1_1, nR_1_2, nR_1_3, nR_1_4, nR_2_0, nR_2_1, nR_2_2, nR_2_3, nR_2_4, nR_3_0, nR_3_1, nR_4_2, nR_5_2, nR_6_0, nR_6_1, nR_6_2, nR_7_0, nR_30_2, nR_30_3, nR_30_4, nR_30_6, nR_30_7, nR_30_9, nR_30_10, nR_30_11, nR_30_12, nR_30_13, nR_30_14, nR_30_15, nR_30_16, nR_30_18, nR_30_19, nR_30_20, nR_30_21, nR_30_22, nR_30_23, nR_30_24, nR_30_28, nR_30_29, nR_30_31, isf, sp_in, zlt, zle, zl1, zl2, zl3, z1l, z2l, z3l, z1e, z2e, z3e, z1n, z2n, z3n, z0n, z0e, true_implies, false_implies, and_true, true_and, ho_upE, bI_ne, bI_eq, true_or, or_true, e5]
    refine ⟨fun w => absurd w c, fun _ => ?_⟩
    refine pb_stop (by omega) ⟨fun _ => ⟨ho_upE, Inv_sc hj hI0 (sm_up sm_rf rfl)⟩, fun w => ?_⟩
    have e0 : ho_up σ 30 0 1 30 0 = 1 := ho_upE
    have w' : ho_up σ 30 0 1 30 0 ≤ 0 := w
    omega
  have thr2 : (0 ≤ s ∧ s < (S : Int) ∧ 0 ≤ f ∧ f < σ 31 s.toNat) → n < 1 → mX7_putBack [30, s, f, n, p] σ (fun _ σ => σ 30 0 = 2 ∧ hi_Inv (j + 1) σ) (fun _ _ => False) := by
    intro c d
    simp only [mX7_putBack, fX7_putBack, u_eC, u_eV, u_eF, u_eR, u_eI, u_eL, u_eB, u_eD, u_eM, u_eU, u_aN, u_aC, u_eK, u_eT, u_cLt, u_cLe, u_cGt, u_cGe, u_cEq, u_cNe, u_cAnd, u_cOr, u_cNot, u_zN, u_zS, u_zD, u_zL, u_zI, u_zB, u_zP, u_zF, u_zA, u_zU, u_zC, u_zR, u_zRZ, u_zRC, u_zRV, u_zT, u_zE, u_zK, u_zY, ho_nid, List.getD_cons_zero, List.getD_cons_succ, List.set_cons_zero, List.set_cons_succ, List.cons_append, List.nil_append, List.take_succ_cons, List.take_zero, Int.reduceToNat, Int.toNat_natCast, nN_0, nN_1, nN_2, nN_3, nN_4, nN_5, nN_6, nN_7, nN_8, nN_9, nN_10, nN_11, nN_12, nN_13, nN_14, nN_15, nN_16, nN_17, nN_18, nN_19, nN_20, nN_21, nN_22, nN_23, nN_24, nN_25, nN_26, nN_27, nN_28, nN_29, nN_30, nN_31, nN_32, nN_33, nN_34, nN_35, nN_36, nN_37, nN_38, nN_39, nN_40, nN_41, nN_42, nN_43, nN_44, nN_45, nN_46, nN_47, nN_48, nN_49, nN_50, nN_51, nN_52, nN_53, nN_54, nR_0_0, nR_0_1, nR_0_2, nR_0_3, nR_0_4, nR_0_5, nR_0_6, nR_0_7, nR_0_8, nR_0_9, nR_0_10, nR_1_0, nR_1_1, nR_1_2, nR_1_3, nR_1_4, nR_2_0, nR_2_1, nR_2_2, nR_2_3, nR_2_4, nR_3_0, nR_3_1, nR_4_2, nR_5_2, nR_6_0, nR_6_1, nR_6_2, nR_7_0, nR_30_2, nR_30_3, nR_30_4, nR_30_6, nR_30_7, nR_30_9, nR_30_10, nR_30_11, nR_30_12, nR_30_13, nR_30_14, nR_30_15, nR_30_16, nR_30_18, nR_30_19, nR_30_20, nR_30_21, nR_30_22, nR_30_23, nR_30_24, nR_30_28, nR_30_29, nR_30_31, isf, sp_in, zlt, zle, zl1, zl2, zl3, z1l, z2l, z3l, z1e, z2e, z3e, z1n, z2n, z3n, z0n, z0e, true_implies, false_implies, and_true, true_and, ho_upE, bI_ne, bI_eq, true_or, or_true, e5]
    refine ⟨fun _ => ⟨fun _ => ?_, fun w => by omega⟩, fun w => absurd c w⟩
    refine pb_stop (by omega) ⟨fun _ => ⟨ho_upE, Inv_sc hj hI0 (sm_up sm_rf rfl)⟩, fun w => ?_⟩
    have e0 : ho_up σ 30 0 2 30 0 = 2 := ho_upE
    have w' : ho_up σ 30 0 2 30 0 ≤ 0 := w
    omega
  have thr3 : (0 ≤ s ∧ s < (S : Int) ∧ 0 ≤ f ∧ f < σ 31 s.toNat) → 1 ≤ n → ¬ (n ≤ σ 31 s.toNat - f ∧ 0 ≤ p ∧ p ≤ (N : Int)) → mX7_putBack [30, s, f, n, p] σ (fun _ σ => σ 30 0 = 1 ∧ hi_Inv (j + 1) σ) (fun _ _ => False) := by
    intro c d e
    have fr := fr31 s.toNat (by rw [e31]; omega)
    have S12 := h2.1
    simp only [mX7_putBack, fX7_putBack, u_eC, u_eV, u_eF, u_eR, u_eI, u_eL, u_eB, u_eD, u_eM, u_eU, u_aN, u_aC, u_eK, u_eT, u_cLt, u_cLe, u_cGt, u_cGe, u_cEq, u_cNe, u_cAnd, u_cOr, u_cNot, u_zN, u_zS, u_zD, u_zL, u_zI, u_zB, u_zP, u_zF, u_zA, u_zU, u_zC, u_zR, u_zRZ, u_zRC, u_zRV, u_zT, u_zE, u_zK, u_zY, ho_nid, List.getD_cons_zero, List.getD_cons_succ, List.set_cons_zero, List.set_cons_succ, List.cons_append, List.nil_append, List.take_succ_cons, List.take_zero, Int.reduceToNat, Int.toNat_natCast, nN_0, nN_1, nN_2, nN_3, nN_4, nN_5, nN_6, nN_7, nN_8, nN_9, nN_10, nN_11, nN_12, nN_13, nN_14, nN_15, nN_16, nN_17, nN_18, nN_19, nN_20, nN_21, nN_22, nN_23, nN_24, nN_25, nN_26, nN_27, nN_28, nN_29, nN_30, nN_31, nN_32, nN_33, nN_34, nN_35, nN_36, nN_37, nN_38, nN_39, nN_40, nN_41, nN_42, nN_43, nN_44, nN_45, nN_46, nN_47, nN_48, nN_49, nN_50, nN_51, nN_52, nN_53, nN_54, nR_0_0, nR_0_1, nR_0_2, nR_0_3, nR_0_4, nR_0_5, nR_0_6, nR_0_7, nR_0_8, nR_0_9, nR_0_10, nR_1_0, nR_1_1, nR_1_2, nR_1_3, nR_1_4, nR_2_0, nR_2_1, nR_2_2, nR_2_3, nR_2_4, nR_3_0, nR_3_1, nR_4_2, nR_5_2, nR_6_0, nR_6_1, nR_6_2, nR_7_0, nR_30_2, nR_30_3, nR_30_4, nR_30_6, nR_30_7, nR_30_9, nR_30_10, nR_30_11, nR_30_12, nR_30_13, nR_30_14, nR_30_15, nR_30_16, nR_30_18, nR_30_19, nR_30_20, nR_30_21, nR_30_22, nR_30_23, nR_30_24, nR_30_28, nR_30_29, nR_30_31, isf, sp_in, zlt, zle, zl1, zl2, zl3, z1l, z2l, z3l, z1e, z2e, z3e, z1n, z2n, z3n, z0n, z0e, true_implies, false_implies, and_true, true_and, ho_upE, bI_ne, bI_eq, true_or, or_true, e5]
    simp only [mR_30_2, mR_30_3, mR_30_4, mR_30_6, mR_30_7, mR_30_9, mR_30_10, mR_30_11, mR_30_12, mR_30_13, mR_30_14, mR_30_15, mR_30_16, mR_30_18, mR_30_19, mR_30_20, mR_30_21, mR_30_22, mR_30_23, mR_30_24, mR_30_28, mR_30_29, mR_30_31, mR_0_9, mR_7_0, nN_25, nN_26, nN_27, nN_28, nN_29, nN_30, nN_31, nN_32, nN_33, nN_34, nN_35, nN_36, nN_37, nN_38, nN_39, nN_40, nN_41, nN_42, nN_43, nN_44, nN_45, nN_46, nN_47, nN_48, nN_49, nN_50, nN_51, nN_52, nN_53, nN_54, Int.toNat_natCast, saF, saE, ho_upF, ho_upE, ne_eq, not_false_eq_true, Nat.reduceEqDiff]
    rw [wsu (by omega) (by omega)]
    exact ⟨fun _ => ⟨fun w => by omega, fun _ => ⟨by omega, fun w => ⟨fun w2 => absurd ⟨w, w2⟩ e, fun _ => pb_stop (by omega) ⟨fun _ => ⟨ho_upE, Inv_sc hj hI0 (sm_up sm_rf rfl)⟩, fun w => absurd (show ho_up σ 30 0 1 30 0 ≤ 0 from w) (by rw [ho_upE]; omega)⟩⟩, fun _ => pb_stop (by omega) ⟨fun _ => ⟨ho_upE, Inv_sc hj hI0 (sm_up sm_rf rfl)⟩, fun w => absurd (show ho_up σ 30 0 1 30 0 ≤ 0 from w) (by rw [ho_upE]; omega)⟩⟩⟩, fun w => absurd c w⟩
  have thr4 : ∀ s' f' n' : Nat, s = (s' : Int) → f = (f' : Int) → n = (n' : Int) → 1 ≤ n → s' < S → ((f' + n' : Nat) : Int) ≤ σ 31 s' → 0 ≤ p → p ≤ (N : Int) → (∃ q, q < n' ∧ σ 32 (400 * s' + f' + q) ≠ -1) → mX7_putBack [30, s, f, n, p] σ (fun _ σ => σ 30 0 = 3 ∧ hi_Inv (j + 1) σ) (fun _ _ => False) := by
    rintro s f n rfl rfl rfl d1 d2 d3 d4 d5 d6
    have fr := (h2.2.2.1 s d2).2
    have S12 := h2.1
    simp only [mX7_putBack, fX7_putBack, u_eC, u_eV, u_eF, u_eR, u_eI, u_eL, u_eB, u_eD, u_eM, u_eU, u_aN, u_aC, u_eK, u_eT, u_cLt, u_cLe, u_cGt, u_cGe, u_cEq, u_cNe, u_cAnd, u_cOr, u_cNot, u_zN, u_zS, u_zD, u_zL, u_zI, u_zB, u_zP, u_zF, u_zA, u_zU, u_zC, u_zR, u_zRZ, u_zRC, u_zRV, u_zT, u_zE, u_zK, u_zY, ho_nid, List.getD_cons_zero, List.getD_cons_succ, List.set_cons_zero, List.set_cons_succ, List.cons_append, List.nil_append, List.take_succ_cons, List.take_zero, Int.reduceToNat, Int.toNat_natCast, nN_0, nN_1, nN_2, nN_3, nN_4, nN_5, nN_6, nN_7, nN_8, nN_9, nN_10, nN_11, nN_12, nN_13, nN_14, nN_15, nN_16, nN_17, nN_18, nN_19, nN_20, nN_21, nN_22, nN_23, nN_24, nN_25, nN_26, nN_27, nN_28, nN_29, nN_30, nN_31, nN_32, nN_33, nN_34, nN_35, nN_36, nN_37, nN_38, nN_39, nN_40, nN_41, nN_42, nN_43, nN_44, nN_45, nN_46, nN_47, nN_48, nN_49, nN_50, nN_51, nN_52, nN_53, nN_54, nR_0_0, nR_0_1, nR_0_2, nR_0_3, nR_0_4, nR_0_5, nR_0_6, nR_0_7, nR_0_8, nR_0_9, nR_0_10, nR_1_0, nR_1_1, nR_1_2, nR_1_3, nR_1_4, nR_2_0, nR_2_1, nR_2_2, nR_2_3, nR_2_4, nR_3_0, nR_3_1, nR_4_2, nR_5_2, nR_6_0, nR_6_1, nR_6_2, nR_7_0, nR_30_2, nR_30_3, nR_30_4, nR_30_6, nR_30_7, nR_30_9, nR_30_10, nR_30_11, nR_30_12, nR_30_13, nR_30_14, nR_30_15, nR_30_16, nR_30_18, nR_30_19, nR_30_20, nR_30_21, nR_30_22, nR_30_23, nR_30_24, nR_30_28, nR_30_29, nR_30_31, isf, sp_in, zlt, zle, zl1, zl2, zl3, z1l, z2l, z3l, z1e, z2e, z3e, z1n, z2n, z3n, z0n, z0e, true_implies, false_implies, and_true, true_and, ho_upE, bI_ne, bI_eq, true_or, or_true, e5]
    simp only [mR_30_2, mR_30_3, mR_30_4, mR_30_6, mR_30_7, mR_30_9, mR_30_10, mR_30_11, mR_30_12, mR_30_13, mR_30_14, mR_30_15, mR_30_16, mR_30_18, mR_30_19, mR_30_20, mR_30_21, mR_30_22, mR_30_23, mR_30_24, mR_30_28, mR_30_29, mR_30_31, mR_0_9, mR_7_0, nN_25, nN_26, nN_27, nN_28, nN_29, nN_30, nN_31, nN_32, nN_33, nN_34, nN_35, nN_36, nN_37, nN_38, nN_39, nN_40, nN_41, nN_42, nN_43, nN_44, nN_45, nN_46, nN_47, nN_48, nN_49, nN_50, nN_51, nN_52, nN_53, nN_54, Int.toNat_natCast, saF, saE, ho_upF, ho_upE, ne_eq, not_false_eq_true, Nat.reduceEqDiff]
    rw [wsu (by omega) (by omega)]
    refine ⟨fun _ => ⟨fun w => by omega, fun _ => ?_⟩, fun w => absurd (by omega) w⟩
    refine ⟨by omega, fun _ => ⟨fun _ => pb_scan (by omega) (by omega) (fun _ k => ⟨fun _ => ⟨ho_upE, Inv_sc hj hI0 (sm_up sm_rf rfl)⟩, fun w => absurd (show ho_up σ 30 0 3 30 0 ≤ 0 from w) (by rw [ho_upE]; omega)⟩) (fun w => ?_), fun w => absurd ⟨d4, d5⟩ w⟩, fun w => by omega⟩
    obtain ⟨q, y1, y2⟩ := d6
    exact absurd (w q y1) y2
  simp only [mX6_putBack, fX6_putBack, u_eC, u_eV, u_eF, u_eR, u_eI, u_eL, u_eB, u_eD, u_eM, u_eU, u_aN, u_aC, u_eK, u_eT, u_cLt, u_cLe, u_cGt, u_cGe, u_cEq, u_cNe, u_cAnd, u_cOr, u_cNot, u_zN, u_zS, u_zD, u_zL, u_zI, u_zB, u_zP, u_zF, u_zA, u_zU, u_zC, u_zR, u_zRZ, u_zRC, u_zRV, u_zT, u_zE, u_zK, u_zY, ho_nid, List.getD_cons_zero, List.getD_cons_succ, List.set_cons_zero, List.set_cons_succ, List.cons_append, List.nil_append, List.take_succ_cons, List.take_zero, Int.reduceToNat, Int.toNat_natCast, nN_0, nN_1, nN_2, nN_3, nN_4, nN_5, nN_6, nN_7, nN_8, nN_9, nN_10, nN_11, nN_12, nN_13, nN_14, nN_15, nN_16, nN_17, nN_18, nN_19, nN_20, nN_21, nN_22, nN_23, nN_24, nN_25, nN_26, nN_27, nN_28, nN_29, nN_30, nN_31, nN_32, nN_33, nN_34, nN_35, nN_36, nN_37, nN_38, nN_39, nN_40, nN_41, nN_42, nN_43, nN_44, nN_45, nN_46, nN_47, nN_48, nN_49, nN_50, nN_51, nN_52, nN_53, nN_54, nR_0_0, nR_0_1, nR_0_2, nR_0_3, nR_0_4, nR_0_5, nR_0_6, nR_0_7, nR_0_8, nR_0_9, nR_0_10, nR_1_0, nR_1_1, nR_1_2, nR_1_3, nR_1_4, nR_2_0, nR_2_1, nR_2_2, nR_2_3, nR_2_4, nR_3_0, nR_3_1, nR_4_2, nR_5_2, nR_6_0, nR_6_1, nR_6_2, nR_7_0, nR_30_2, nR_30_3, nR_30_4, nR_30_6, nR_30_7, nR_30_9, nR_30_10, nR_30_11, nR_30_12, nR_30_13, nR_30_14, nR_30_15, nR_30_16, nR_30_18, nR_30_19, nR_30_20, nR_30_21, nR_30_22, nR_30_23, nR_30_24, nR_30_28, nR_30_29, nR_30_31, sp_needFrame, sp_shotFrames, sp_fsize, sp_needSome, h1.2.2.1, h1.1]
  by_cases c0 : 0 ≤ s ∧ s < (S : Int)
  · have g12 : gi σ 12 s = σ 31 s.toNat := by
      rw [gi_in (by omega) (by have := h2.1; show s < (12 : Int); omega)]
      exact (h2.2.2.1 s.toNat (by omega)).1
    rw [g12]
    have S12 := h2.1
    have fr := (h2.2.2.1 s.toNat (by omega)).2
    by_cases c1 : 0 ≤ s ∧ s < (S : Int) ∧ 0 ≤ f ∧ f < σ 31 s.toNat
    · rw [if_pos c1, wsu (by omega) (by omega)]
      refine ⟨fun c2 => ⟨fun w => Or.inl ⟨by trivial, thr3 c1 c2 (by omega)⟩, fun w => ⟨fun x => Or.inl ⟨by trivial, thr3 c1 c2 (by omega)⟩, fun x => ⟨fun y => Or.inl ⟨by trivial, thr3 c1 c2 (by omega)⟩, fun y => ?_⟩⟩⟩, fun z => ?_⟩
      · rw [if_pos c2]
        obtain ⟨s, rfl⟩ : ∃ q : Nat, s = (q : Int) := ⟨s.toNat, by omega⟩
        obtain ⟨f, rfl⟩ : ∃ q : Nat, f = (q : Int) := ⟨f.toNat, by omega⟩
        obtain ⟨n, rfl⟩ : ∃ q : Nat, n = (q : Int) := ⟨n.toNat, by omega⟩
        obtain ⟨p, rfl⟩ : ∃ q : Nat, p = (q : Int) := ⟨p.toNat, by omega⟩
        simp only [Int.toNat_natCast] at c1 w fr
        have so : ∀ q : Nat, q < n → (σ 10 ((s : Int) * 401 + (f : Int) + (q : Int)).toNat = -1 ↔ σ 32 (400 * s + f + q) = -1) := fun q hq => by
          have e := same_out (s := s) (f := f + q) h2 h3 h4 (by omega) (by omega)
          rw [show 400 * s + f + q = 400 * s + (f + q) by omega, show ((s : Int) * 401 + (f : Int) + (q : Int)).toNat = 401 * s + (f + q) by omega]
          exact e
        refine sp_showsAny (by omega) (by omega) (by omega) (by omega) (by omega) (fun w1 => ⟨fun _ => Or.inr (Or.inr ⟨by trivial, thr4 s f n rfl rfl rfl c2 (by omega) (by omega) (by omega) (by omega) ?_⟩), fun z => absurd z (by omega)⟩) (fun w1 => ⟨fun z => absurd rfl z, fun _ => ?_⟩)
        · obtain ⟨q, y1, y2⟩ := w1
          exact ⟨q, by omega, fun e => y2 ((so q (by omega)).mpr e)⟩
        clear thr1 thr2 thr3 thr4
        have out : ∀ q, q < n → σ 32 (400 * s + f + q) = -1 := fun q hq => (so q hq).mp (w1 q (by omega))
        have fresh : ∀ i q, i < N → q < n → σ 34 i ≠ ((400 * s + f + q : Nat) : Int) := fun i q hi hq e => by
          have o := h4 s (f + q) (by omega) (by omega)
          have o2 := out q hq
          rw [show 400 * s + (f + q) = 400 * s + f + q by omega] at o
          rcases o with ⟨y, y1, y2, y3⟩ | ⟨y1, y2⟩
          · omega
          · exact y1 i hi e
        have old := h2.2.2.2.1
        obtain ⟨F', hF'⟩ : ∃ F' : Nat → Int, ∀ i, F' i = if i < p then σ 34 i else if i < p + n then ((400 * s + f + (i - p) : Nat) : Int) else σ 34 (i - n) := ⟨_, fun _ => rfl⟩
        have io := ins_ok (k' := fun i => if i < p then σ 8 i else if i < p + n then ((401 * s + f + (i - p) : Nat) : Int) else σ 8 (i - n)) (F' := F') (σ := σ) (N := N) (n := n) (p := p) (s := s) (f := f) (by omega) (by omega) old h2.2.2.2.2.2 fresh (fun _ _ => rfl) hF' (by omega)
        have Finj := io.2
        have pF : ∀ i, i < N + n → F' i < 400 * (S : Int) ∧ F' i % 400 < σ 31 (F' i / 400).toNat := fun i hi => by
          rw [hF']
          by_cases y1 : i < p
          · rw [if_pos y1]; exact h2.2.2.2.2.1 i (by omega)
          · rw [if_neg y1]
            by_cases y2 : i < p + n
            · rw [if_pos y2, show (((400 * s + f + (i - p) : Nat) : Int) / 400).toNat = s by omega]; omega
            · rw [if_neg y2]; exact h2.2.2.2.2.1 (i - n) (by omega)
        have fits : N + n ≤ 400 * S := nfit (fun i hi => ⟨(io.1 i hi).1, (pF i hi).1⟩) Finj
        have keys : ∀ i : Nat, i < N → 0 ≤ σ 8 i ∧ σ 8 i < 4812 := fun i hi => by have := old i hi; omega
        refine sp_putIn (by omega) (by omega) (by omega) (by omega) (by omega) (by omega) (by rw [h1.2.2.1]; omega) (by rw [h1.2.2.1]; omega) (fun i hi => keys i (by rw [h1.2.2.1] at hi; omega)) (fun k' k1 => ?_)
        rw [h1.2.2.1, show ((N : Int) + (n : Int)) = ((N + n : Nat) : Int) by omega, show (((N + n : Nat) : Int) - (p : Int)).toNat = N + n - p by omega, Int.toNat_natCast]
        rw [h1.2.2.1] at k1
        simp only [Int.toNat_natCast] at k1
        have kk : ∀ i, i < N + n → k' i = if i < p then σ 8 i else if i < p + n then ((401 * s + f + (i - p) : Nat) : Int) else σ 8 (i - n) := fun i hi => by
          rw [k1 i (by omega)]
          by_cases y1 : i < p
          · rw [if_pos (by omega), if_pos y1]
          · rw [if_neg (by omega), if_neg y1]
            by_cases y2 : i < p + n
            · rw [if_pos (by omega), if_pos y2]; omega
            · rw [if_neg (by omega), if_neg y2]
        have kFR : FR k' F' (N + n) := fun i hi => by rw [kk i hi]; exact io.1 i hi
        clear k1 io
        obtain ⟨σ1, hσ1⟩ : ∃ σ1, σ1 = sa (ho_up (sa σ 8 k') 1 6 ((N + n : Nat) : Int)) 10 (rnum k' (σ 10) p (N + n - p)) := ⟨_, rfl⟩
        have v8 : σ1 8 = k' := by rw [hσ1, saF (show (8 : Nat) ≠ 10 by decide), ho_upF (show (8 : Nat) ≠ 1 by decide), saE]
        have v10 : σ1 10 = rnum k' (σ 10) p (N + n - p) := by rw [hσ1, saE]
        have v16 : σ1 1 6 = ((N + n : Nat) : Int) := by rw [hσ1, saF (show (1 : Nat) ≠ 10 by decide), ho_upE]
        have v15 : σ1 1 5 = (S : Int) := by rw [hσ1, saF (show (1 : Nat) ≠ 10 by decide), ho_upJ (show (5 : Nat) ≠ 6 by decide), saF (show (1 : Nat) ≠ 8 by decide)]; exact h1.1
        have vk : ∀ k, k ≠ 10 → k ≠ 1 → k ≠ 8 → σ1 k = σ k := fun k a1 a2 a3 => by rw [hσ1, saF a1, ho_upF a2, saF a3]
        have s1 : sm pFi σ σ1 := by rw [hσ1]; exact sm_sa (sm_up (sm_sa sm_rf (fun _ => rfl)) rfl) (fun _ => rfl)
        rw [← hσ1]
        clear hσ1
        refine c_find (F' := F') v16 (by omega) (by rw [v8]; exact kFR) (vk 11 (by omega) (by omega) (by omega)) h5 (by rw [vk 15 (by omega) (by omega) (by omega)]; exact h6.2.2) (fun σ2 s2 t1 t3 => ?_)
        have w16 : σ2 1 6 = ((N + n : Nat) : Int) := (s2 1 6 rfl).trans v16
        rw [w16]
        refine tau (fun τ sτ τ54 eτ => ?_)
        have wk : ∀ k, k ≠ 54 → (∀ j, pFd k j = false) → k ≠ 10 → k ≠ 1 → k ≠ 8 → τ k = σ k := fun k a0 p a1 a2 a3 => by rw [eτ k a0, sm_fn s2 k p, vk k a1 a2 a3]
        have q30 := wk 30 (by omega) (fun _ => rfl) (by omega) (by omega) (by omega)
        have q34 := wk 34 (by omega) (fun _ => rfl) (by omega) (by omega) (by omega)
        have q33 := wk 33 (by omega) (fun _ => rfl) (by omega) (by omega) (by omega)
        have q32 := wk 32 (by omega) (fun _ => rfl) (by omega) (by omega) (by omega)
        have q12 := wk 12 (by omega) (fun _ => rfl) (by omega) (by omega) (by omega)
        have q31 := wk 31 (by omega) (fun _ => rfl) (by omega) (by omega) (by omega)
        have q8 : τ 8 = k' := by rw [eτ 8 (by omega), sm_fn s2 8 (fun _ => rfl), v8]
        have q10 : τ 10 = rnum k' (σ 10) p (N + n - p) := by rw [eτ 10 (by omega), sm_fn s2 10 (fun _ => rfl), v10]
        have q16 : τ 1 6 = ((N + n : Nat) : Int) := by rw [eτ 1 (by omega)]; exact w16
        have q15 : τ 1 5 = (S : Int) := by rw [eτ 1 (by omega), s2 1 5 rfl]; exact v15
        have sT : sm pFi σ τ := sm_tr s1 (sm_tr (sm_w s2 pFi_fd) (sm_w sτ pFi_sc))
        have m5 : τ 30 5 = (N : Int) := by rw [q30]; exact e5
        have m1 : τ 30 1 = (S : Int) := by rw [q30]; exact e31
        have isg := fun (Q : ho_K) (X : ho_X) => sp_isFrame (σ := τ) (s := (s : Int)) (f := (f : Int)) (Q := Q) (X := X) (by rw [m1]; omega) (by rw [m1]; omega) (fun q hq => by rw [q31]; exact fr31 q (by rw [e31, ← m1]; exact hq))
        rw [m1] at isg
        simp only [mX7_putBack, fX7_putBack, u_eC, u_eV, u_eF, u_eR, u_eI, u_eL, u_eB, u_eD, u_eM, u_eU, u_aN, u_aC, u_eK, u_eT, u_cLt, u_cLe, u_cGt, u_cGe, u_cEq, u_cNe, u_cAnd, u_cOr, u_cNot, u_zN, u_zS, u_zD, u_zL, u_zI, u_zB, u_zP, u_zF, u_zA, u_zU, u_zC, u_zR, u_zRZ, u_zRC, u_zRV, u_zT, u_zE, u_zK, u_zY, ho_nid, List.getD_cons_zero, List.getD_cons_succ, List.set_cons_zero, List.set_cons_succ, List.cons_append, List.nil_append, List.take_succ_cons, List.take_zero, Int.reduceToNat, Int.toNat_natCast, nN_0, nN_1, nN_2, nN_3, nN_4, nN_5, nN_6, nN_7, nN_8, nN_9, nN_10, nN_11, nN_12, nN_13, nN_14, nN_15, nN_16, nN_17, nN_18, nN_19, nN_20, nN_21, nN_22, nN_23, nN_24, nN_25, nN_26, nN_27, nN_28, nN_29, nN_30, nN_31, nN_32, nN_33, nN_34, nN_35, nN_36, nN_37, nN_38, nN_39, nN_40, nN_41, nN_42, nN_43, nN_44, nN_45, nN_46, nN_47, nN_48, nN_49, nN_50, nN_51, nN_52, nN_53, nN_54, nR_0_0, nR_0_1, nR_0_2, nR_0_3, nR_0_4, nR_0_5, nR_0_6, nR_0_7, nR_0_8, nR_0_9, nR_0_10, nR_1_0, nR_1_1, nR_1_2, nR_1_3, nR_1_4, nR_2_0, nR_2_1, nR_2_2, nR_2_3, nR_2_4, nR_3_0, nR_3_1, nR_4_2, nR_5_2, nR_6_0, nR_6_1, nR_6_2, nR_7_0, nR_30_2, nR_30_3, nR_30_4, nR_30_6, nR_30_7, nR_30_9, nR_30_10, nR_30_11, nR_30_12, nR_30_13, nR_30_14, nR_30_15, nR_30_16, nR_30_18, nR_30_19, nR_30_20, nR_30_21, nR_30_22, nR_30_23, nR_30_24, nR_30_28, nR_30_29, nR_30_31, isg, sp_in, zlt, zle, zl1, zl2, zl3, z1l, z2l, z3l, z1e, z2e, z3e, z1n, z2n, z3n, z0n, z0e, true_implies, false_implies, and_true, true_and, ho_upE, bI_ne, bI_eq, true_or, or_true, m5, q31]
        simp only [mR_30_2, mR_30_3, mR_30_4, mR_30_6, mR_30_7, mR_30_9, mR_30_10, mR_30_11, mR_30_12, mR_30_13, mR_30_14, mR_30_15, mR_30_16, mR_30_18, mR_30_19, mR_30_20, mR_30_21, mR_30_22, mR_30_23, mR_30_24, mR_30_28, mR_30_29, mR_30_31, mR_0_9, mR_7_0, nN_25, nN_26, nN_27, nN_28, nN_29, nN_30, nN_31, nN_32, nN_33, nN_34, nN_35, nN_36, nN_37, nN_38, nN_39, nN_40, nN_41, nN_42, nN_43, nN_44, nN_45, nN_46, nN_47, nN_48, nN_49, nN_50, nN_51, nN_52, nN_53, nN_54, Int.toNat_natCast, saF, saE, ho_upF, ho_upE, ne_eq, not_false_eq_true, Nat.reduceEqDiff, q31]
        rw [wsu (by omega) (by omega)]
        refine ⟨fun _ => ⟨fun w => by omega, fun _ => ⟨by omega, fun _ => ⟨fun _ => ?_, fun w => absurd (show 0 ≤ (p : Int) ∧ (p : Int) ≤ (N : Int) by omega) w⟩, fun w => by omega⟩⟩, fun w => absurd c1 w⟩
        refine pb_scan (by omega) (by omega) (fun w k => ?_) (fun _ => ?_)
        · obtain ⟨q, y1, y2⟩ := w
          rw [q32] at y2
          exact absurd (out q y1) y2
        refine ⟨fun w => absurd (show 0 < ho_up τ 30 0 0 30 0 from w) (by rw [ho_upE]; omega), fun _ => ?_⟩
        have n0 : ∀ i, i ≠ 0 → (ho_up τ 30 0 0) 30 i = σ 30 i := fun i hi => by rw [ho_upJ hi, q30]
        show zW _ _ [30, (s : Int), (f : Int), (n : Int), (p : Int), 0] (ho_up τ 30 0 0) _ _ _
        refine zW_rule (fun v σ' m => ∃ k : Nat, (k ≤ n) ∧ v = [30, (s : Int), (f : Int), (n : Int), (p : Int), (k : Int)] ∧ m = n - k ∧ sm (fun k _ => Nat.beq k 35) (ho_up τ 30 0 0) σ' ∧ ∀ q, q < k → σ' 35 q = ((400 * s + f + q : Nat) : Int)) _ ⟨0, by omega, rfl, rfl, sm_rf, fun c hc => by omega⟩ ?_
        rintro v σ3 m ⟨k, hk, rfl, rfl, s3, h35⟩ KK KE hKK hKE
        simp only [u_eC, u_eV, u_eF, u_eR, u_eI, u_eL, u_eB, u_eD, u_eM, u_eU, u_aN, u_aC, u_eK, u_eT, u_cLt, u_cLe, u_cGt, u_cGe, u_cEq, u_cNe, u_cAnd, u_cOr, u_cNot, u_zN, u_zS, u_zD, u_zL, u_zI, u_zB, u_zP, u_zF, u_zA, u_zU, u_zC, u_zR, u_zRZ, u_zRC, u_zRV, u_zT, u_zE, u_zK, u_zY, ho_nid, List.getD_cons_zero, List.getD_cons_succ, List.set_cons_zero, List.set_cons_succ, List.cons_append, List.nil_append, List.take_succ_cons, List.take_zero, Int.reduceToNat, Int.toNat_natCast, nN_0, nN_1, nN_2, nN_3, nN_4, nN_5, nN_6, nN_7, nN_8, nN_9, nN_10, nN_11, nN_12, nN_13, nN_14, nN_15, nN_16, nN_17, nN_18, nN_19, nN_20, nN_21, nN_22, nN_23, nN_24, nN_25, nN_26, nN_27, nN_28, nN_29, nN_30, nN_31, nN_32, nN_33, nN_34, nN_35, nN_36, nN_37, nN_38, nN_39, nN_40, nN_41, nN_42, nN_43, nN_44, nN_45, nN_46, nN_47, nN_48, nN_49, nN_50, nN_51, nN_52, nN_53, nN_54, nR_0_0, nR_0_1, nR_0_2, nR_0_3, nR_0_4, nR_0_5, nR_0_6, nR_0_7, nR_0_8, nR_0_9, nR_0_10, nR_1_0, nR_1_1, nR_1_2, nR_1_3, nR_1_4, nR_2_0, nR_2_1, nR_2_2, nR_2_3, nR_2_4, nR_3_0, nR_3_1, nR_4_2, nR_5_2, nR_6_0, nR_6_1, nR_6_2, nR_7_0, nR_30_2, nR_30_3, nR_30_4, nR_30_6, nR_30_7, nR_30_9, nR_30_10, nR_30_11, nR_30_12, nR_30_13, nR_30_14, nR_30_15, nR_30_16, nR_30_18, nR_30_19, nR_30_20, nR_30_21, nR_30_22, nR_30_23, nR_30_24, nR_30_28, nR_30_29, nR_30_31, saF, saE, ho_upF, ho_upE, ne_eq, not_false_eq_true, Nat.reduceEqDiff]
        simp only [mR_30_2, mR_30_3, mR_30_4, mR_30_6, mR_30_7, mR_30_9, mR_30_10, mR_30_11, mR_30_12, mR_30_13, mR_30_14, mR_30_15, mR_30_16, mR_30_18, mR_30_19, mR_30_20, mR_30_21, mR_30_22, mR_30_23, mR_30_24, mR_30_28, mR_30_29, mR_30_31, mR_0_9, mR_7_0, nN_25, nN_26, nN_27, nN_28, nN_29, nN_30, nN_31, nN_32, nN_33, nN_34, nN_35, nN_36, nN_37, nN_38, nN_39, nN_40, nN_41, nN_42, nN_43, nN_44, nN_45, nN_46, nN_47, nN_48, nN_49, nN_50, nN_51, nN_52, nN_53, nN_54, Int.toNat_natCast, saF, saE, ho_upF, ho_upE, ne_eq, not_false_eq_true, Nat.reduceEqDiff]
        refine ⟨fun z1 => ?_, fun z1 => hKE _ ?_⟩
        · rw [wmu (by omega) (by omega), wad (a := 400 * (s : Int)) (by omega) (by omega), wad (by omega) (by omega), inc (by omega), show 400 * (s : Int) + (f : Int) + (k : Int) = ((400 * s + f + k : Nat) : Int) by omega]
          refine ⟨by omega, hKK _ _ (n - (k + 1)) (by omega) ⟨k + 1, by omega, rfl, rfl, sm_up s3 rfl, fun c hc => ?_⟩⟩
          by_cases q : c = k
          · subst q
            rw [ho_upE]
          · rw [ho_upJ q]
            exact h35 c (by omega)
        have kn : k = n := by omega
        subst kn
        show mX7_puts [30, (p : Int), (k : Int)] σ3 _ _
        have x5 : σ3 30 5 = (N : Int) := by rw [s3 30 5 rfl, n0 5 (by omega)]; exact e5
        have x34 : σ3 34 = σ 34 := by rw [sm_fn s3 34 (fun _ => rfl), ho_upF (show (34 : Nat) ≠ 30 by decide), q34]
        refine sp_puts (by omega) (by omega) (by rw [x5]; omega) (by rw [x5]; omega) (fun fn g1 => ?_)
        rw [x5, x34, show (N : Int) + (k : Int) = ((N + k : Nat) : Int) by omega] at g1
        simp only [Int.toNat_natCast] at g1
        rw [x5, show (N : Int) + (k : Int) = ((N + k : Nat) : Int) by omega]
        obtain ⟨σ5, hσ5⟩ : ∃ σ5, σ5 = ho_up (sa σ3 34 fn) 30 5 ((N + k : Nat) : Int) := ⟨_, rfl⟩
        have z34 : σ5 34 = fn := by rw [hσ5, ho_upF (show (34 : Nat) ≠ 30 by decide), saE]
        have z5 : σ5 30 5 = ((N + k : Nat) : Int) := by rw [hσ5, ho_upE]
        have s35 : sm (fun k i => Nat.beq k 34 || (Nat.beq k 35 || (Nat.beq k 30 && Nat.beq i 5))) σ3 σ5 := by rw [hσ5]; exact sm_up (sm_sa sm_rf (fun _ => rfl)) rfl
        rw [← hσ5]
        clear hσ5
        have fF : ∀ i, i < N + k → fn i = F' i := fun i hi => by
          rw [hF', g1 i (by omega)]
          by_cases y1 : i < p
          · rw [if_pos (by omega), if_pos y1]
          · rw [if_neg (by omega), if_neg y1]
            by_cases y2 : i < p + k
            · rw [if_pos (by omega), if_pos y2, h35 (i - p) (by omega)]
            · rw [if_neg (by omega), if_neg y2]
        have FB : ∀ i, i < N + k → 0 ≤ F' i ∧ F' i < 4800 := fun i hi => ⟨(kFR i hi).1, (kFR i hi).2.1⟩
        have z3 : ∀ i, i ≠ 5 → i ≠ 0 → σ5 30 i = σ 30 i := fun i hi hi0 => by
          rw [s35 30 i (show Nat.beq i 5 = false by
            cases q : Nat.beq i 5
            · rfl
            · exact absurd (Nat.eq_of_beq_eq_true q) hi), s3 30 i rfl, n0 i hi0]
        have z30 : σ5 30 0 = 0 := by rw [s35 30 0 rfl, s3 30 0 rfl, ho_upE]
        have zk : ∀ k, (∀ j, (Nat.beq k 34 || (Nat.beq k 35 || (Nat.beq k 30 && Nat.beq j 5))) = false) → (∀ j : Nat, Nat.beq k 35 = false) → k ≠ 30 → σ5 k = τ k := fun k p1 p2 p3 => by rw [sm_fn s35 k p1, sm_fn s3 k p2, ho_upF p3]
        have z33 : σ5 33 = σ 33 := by rw [zk 33 (fun _ => rfl) (fun _ => rfl) (by omega), q33]
        show mX7_settles [30] σ5 _ _
        refine m_settles (F' := F') (S' := S) (by rw [z3 1 (by omega) (by omega)]; exact h1.2.1) h2.1 z5 (by omega) (by rw [z3 8 (by omega) (by omega)]; exact h1.2.2.2.2.2.1) hM (fun i hi => by rw [z34]; exact fF i hi) FB Finj (by rw [z33]; exact h5.1) (fun υ sυ plm t2 => ?_)
        rw [z33] at t2
        have u30 : ∀ i, υ 30 i = σ5 30 i := fun i => sυ 30 i rfl
        have uk : ∀ k, (∀ j : Nat, (Nat.beq k 32 || (Nat.beq k 37 || Nat.beq k 38)) = false) → (∀ j, (Nat.beq k 34 || (Nat.beq k 35 || (Nat.beq k 30 && Nat.beq j 5))) = false) → (∀ j : Nat, Nat.beq k 35 = false) → k ≠ 30 → υ k = τ k := fun k p0 p1 p2 p3 => by rw [sm_fn sυ k p0, zk k p1 p2 p3]
        have u34 : υ 34 = fn := (sm_fn sυ 34 (fun _ => rfl)).trans z34
        have u31 : υ 31 = σ 31 := by rw [uk 31 (fun _ => rfl) (fun _ => rfl) (fun _ => rfl) (by omega), q31]
        have u12 : υ 12 = σ 12 := by rw [uk 12 (fun _ => rfl) (fun _ => rfl) (fun _ => rfl) (by omega), q12]
        have u8 : υ 8 = k' := by rw [uk 8 (fun _ => rfl) (fun _ => rfl) (fun _ => rfl) (by omega), q8]
        have u10 : υ 10 = rnum k' (σ 10) p (N + k - p) := by rw [uk 10 (fun _ => rfl) (fun _ => rfl) (fun _ => rfl) (by omega), q10]
        have u33 : υ 33 = σ 33 := by rw [uk 33 (fun _ => rfl) (fun _ => rfl) (fun _ => rfl) (by omega), q33]
        have u1 : υ 1 = τ 1 := uk 1 (fun _ => rfl) (fun _ => rfl) (fun _ => rfl) (by omega)
        have u13 : υ 13 = σ2 13 := by rw [uk 13 (fun _ => rfl) (fun _ => rfl) (fun _ => rfl) (by omega), eτ 13 (by omega)]
        have u14 : υ 14 = σ2 14 := by rw [uk 14 (fun _ => rfl) (fun _ => rfl) (fun _ => rfl) (by omega), eτ 14 (by omega)]
        have u15 : υ 15 = σ2 15 := by rw [uk 15 (fun _ => rfl) (fun _ => rfl) (fun _ => rfl) (by omega), eτ 15 (by omega)]
        have u54 : υ 54 = τ 54 := uk 54 (fun _ => rfl) (fun _ => rfl) (fun _ => rfl) (by omega)
        have us : sm pFi σ υ := sm_tr (sm_up sT rfl : sm pFi σ (ho_up τ 30 0 0)) (sm_tr (sm_mo s3 pFi_35) (sm_tr (sm_mo s35 pFi_34) (sm_mo sυ pFi_32)))
        have lrF : ∀ c s l, LR (fun i => bit (σ 33 (F' i).toNat) c = true) (N + k) s l → LR (fun i => bit (σ 33 (υ 34 i).toNat) c = true) (N + k) s l := fun c s l hl => LR_congr (fun i hi => by rw [u34, fF i hi]) hl
        refine ⟨by rw [u30]; exact z30, (congrFun u54 0).trans (τ54.trans ((u30 5).trans z5).symm), Inv_fi (S' := S) (N' := N + k) hj h1 h5 h7 h8 h9 h10 h11 h12 h13 us ⟨by rw [u1]; exact q15, by rw [u30, z3 1 (by omega) (by omega)]; exact h1.2.1, by rw [u1]; exact q16, by rw [u30]; exact z5⟩ ⟨h2.1, fits, by rw [u12, u31]; exact h2.2.2.1, fun i hi => ?_, fun i hi => ?_, fun i i' hi hi' e => ?_⟩ (fun s f hs hf => ?_) (fun s f hs hf => ?_) (Nat.le_refl _) u33 (fun c hc => ?_) (fun c hc => ?_) (by rw [u15]; exact t3)⟩
        · rw [u8, u34, fF i hi]; exact kFR i hi
        · rw [u34, fF i hi, u31]; exact pF i hi
        · rw [u34, fF i hi, fF i' hi'] at e; exact Finj i i' hi hi' e
        · rw [u31] at hf
          have po := h3 s f hs hf
          rw [u8, u10]
          have pr := ins_plc (x := ((401 * s + f : Nat) : Int)) (by omega) (by omega) kFR Finj kk (Or.inr (by rw [Int.toNat_natCast]; exact po))
          rw [Int.toNat_natCast] at pr
          exact pr
        · rw [u31] at hf
          have fr := h2.2.2.1 s hs
          have pm := plm ((400 * s + f : Nat) : Int) (by omega) (by omega)
          rw [Int.toNat_natCast] at pm
          exact PLC_F pm (fun i hi => by rw [u34]; exact fF i hi)
        · rw [u13, u14]
          exact lrF c _ _ (t1 c hc)
        · exact lrF c _ _ (t2 c hc)
      · rw [if_neg (by omega)]
        exact Or.inr (Or.inl ⟨by trivial, thr2 c1 (by omega)⟩)
    · rw [if_neg c1]
      exact Or.inl ⟨by trivial, thr1 c1⟩
  · rw [if_neg (fun w => c0 ⟨w.1, w.2.1⟩)]
    exact Or.inl ⟨by trivial, thr1 (fun w => c0 ⟨w.1, w.2.1⟩)⟩
