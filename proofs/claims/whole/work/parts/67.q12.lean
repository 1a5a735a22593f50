theorem ins_ok {k' F' : Nat → Int} {σ : ho_S} {N n p s f : Nat} (hs : s < 12) (hfn : f + n ≤ 400) (old : FR (σ 8) (σ 34) N) (inj : ∀ i i', i < N → i' < N → σ 34 i = σ 34 i' → i = i') (fresh : ∀ i q, i < N → q < n → σ 34 i ≠ ((400 * s + f + q : Nat) : Int)) (hk : ∀ i, i < N + n → k' i = if i < p then σ 8 i else if i < p + n then ((401 * s + f + (i - p) : Nat) : Int) else σ 8 (i - n)) (hF : ∀ i, F' i = if i < p then σ 34 i else if i < p + n then ((400 * s + f + (i - p) : Nat) : Int) else σ 34 (i - n)) (hp : p ≤ N) : FR k' F' (N + n) ∧ ∀ i i', i < N + n → i' < N + n → F' i = F' i' → i = i' := by
  have fc : ∀ i, i < N + n → (i < p ∧ F' i = σ 34 i) ∨ (p ≤ i ∧ i < p + n ∧ F' i = ((400 * s + f + (i - p) : Nat) : Int)) ∨ (p + n ≤ i ∧ F' i = σ 34 (i - n)) := fun i hi => by
    rw [hF]
    by_cases q1 : i < p
    · rw [if_pos q1]; exact Or.inl ⟨q1, rfl⟩
    · rw [if_neg q1]
      by_cases q2 : i < p + n
      · rw [if_pos q2]; exact Or.inr (Or.inl ⟨by omega, q2, rfl⟩)
      · rw [if_neg q2]; exact Or.inr (Or.inr ⟨by omega, rfl⟩)
  refine ⟨fun i hi => ?_, fun i i' hi hi' e => ?_⟩
  · rw [hk i hi]
    rcases fc i hi with ⟨a, b⟩ | ⟨a, b, c⟩ | ⟨a, b⟩
    · rw [if_pos a, b]; exact old i (by omega)
    · rw [if_neg (by omega), if_pos b, c]; omega
    · rw [if_neg (by omega), if_neg (by omega), b]; exact old (i - n) (by omega)
  · rcases fc i hi with ⟨a, b⟩ | ⟨a, b, c⟩ | ⟨a, b⟩
    · rcases fc i' hi' with ⟨a', b'⟩ | ⟨a', b', c'⟩ | ⟨a', b'⟩
      · exact inj i i' (by omega) (by omega) (by omega)
      · exact absurd (by omega) (fresh i (i' - p) (by omega) (by omega))
      · have := inj i (i' - n) (by omega) (by omega) (by omega); omega
    · rcases fc i' hi' with ⟨a', b'⟩ | ⟨a', b', c'⟩ | ⟨a', b'⟩
      · exact absurd (by omega) (fresh i' (i - p) (by omega) (by omega))
      · omega
      · exact absurd (by omega) (fresh (i' - n) (i - p) (by omega) (by omega))
    · rcases fc i' hi' with ⟨a', b'⟩ | ⟨a', b', c'⟩ | ⟨a', b'⟩
      · have := inj (i - n) i' (by omega) (by omega) (by omega); omega
      · exact absurd (by omega) (fresh (i - n) (i' - p) (by omega) (by omega))
      · have := inj (i - n) (i' - n) (by omega) (by omega) (by omega); omega
theorem ins_plc {k' F' : Nat → Int} {σ : ho_S} {N n p s f : Nat} {x : Int} (hx : 0 ≤ x) (hp : p ≤ N) (kFR : FR k' F' (N + n)) (Finj : ∀ i i', i < N + n → i' < N + n → F' i = F' i' → i = i') (hk : ∀ i, i < N + n → k' i = if i < p then σ 8 i else if i < p + n then ((401 * s + f + (i - p) : Nat) : Int) else σ 8 (i - n)) (po : (∃ i, p ≤ i ∧ i < N + n ∧ k' i = x) ∨ PLC (σ 8) N x (σ 10 x.toNat)) : PLC k' (N + n) x (rnum k' (σ 10) p (N + n - p) x.toNat) := by
  refine plc_rn (k' := k') (pl := σ 10) (a := p) (N' := N + n) hx (by omega) (fun i hi => by have := kFR i hi; omega) (fun i i' hi hi' e => by
    have u := kFR i hi
    have v := kFR i' hi'
    exact Finj i i' hi hi' (by omega)) (fun no => ?_)
  rcases po with ⟨i, i1, i2, i3⟩ | ⟨i0, i1, i2, i3⟩ | ⟨i1, i2⟩
  · exact absurd i3 (no i i1 i2)
  · by_cases y : i0 < p
    · exact Or.inl ⟨i0, y, by rw [hk i0 (by omega), if_pos y]; exact i2, i3⟩
    · exact absurd (by rw [hk (i0 + n) (by omega), if_neg (by omega), if_neg (by omega), show i0 + n - n = i0 by omega]; exact i2) (no (i0 + n) (by omega) (by omega))
  · exact Or.inr ⟨fun i hi e => i1 i (by omega) (by rw [hk i (by omega), if_pos hi] at e; exact e), i2⟩

theorem op_putBack {j : Nat} {σ : ho_S} {s f n p : Int} (hj : j < 512) (hI : hi_Inv j σ) : mX6_putBack [0, s, f, n, p] σ (fun a σ => mX7_putBack [30, s, f, n, p] (ho_up σ 54 0 a) (fun b σ => σ 30 0 = 0 ∧ σ 54 0 = b ∧ hi_Inv (j + 1) σ) (fun _ _ => False)) (fun ec σ => (ec = 2 ∧ mX7_putBack [30, s, f, n, p] σ (fun _ σ => σ 30 0 = 1 ∧ hi_Inv (j + 1) σ) (fun _ _ => False)) ∨ (ec = 0 ∧ mX7_putBack [30, s, f, n, p] σ (fun _ σ => σ 30 0 = 2 ∧ hi_Inv (j + 1) σ) (fun _ _ => False)) ∨ (ec = 1 ∧ mX7_putBack [30, s, f, n, p] σ (fun _ σ => σ 30 0 = 3 ∧ hi_Inv (j + 1) σ) (fun _ _ => False))) := by
  have hI0 := hI
  obtain ⟨_, S, N, M, h1, h2, h3, h4, h5, h6, h7, h8, h9, h10, h11, h12, h13⟩ := hI
  have hM := h1.2.2.2.2.2.2
  have hN : N ≤ 4800 := by have := h2.1; have := h2.2.1; omega
  have e5 := h1.2.2.2.1
  have e31 := h1.2.1
  have fr31 : ∀ q : Nat, (q : Int) < σ 30 1 → 1 ≤ σ 31 q ∧ σ 31 q ≤ 400 := fun q hq => (h2.2.2.1 q (by omega)).2
  have isf := fun (Q : ho_K) (X : ho_X) => sp_isFrame (σ := σ) (s := s) (f := f) (Q := Q) (X := X) (by rw [e31]; omega) (by rw [e31]; have := h2.1; omega) fr31
  rw [e31] at isf
  have stop : ∀ e : Int, 0 < e → ∀ (w : List Int) (K : List Int → ho_S → Prop) (R : ho_K) (X : ho_X), K w (ho_up σ 30 0 e) → True := fun _ _ _ _ _ _ _ => trivial
  have thr1 : ¬ (0 ≤ s ∧ s < (S : Int) ∧ 0 ≤ f ∧ f < σ 31 s.toNat) → mX7_putBack [30, s, f, n, p] σ (fun _ σ => σ 30 0 = 1 ∧ hi_Inv (j + 1) σ) (fun _ _ => False) := by
    intro c
    simp only [mX7_putBack, fX7_putBack, u_eC, u_eV, u_eF, u_eR, u_eI, u_eL, u_eB, u_eD, u_eM, u_eU, u_aN, u_aC, u_eK, u_eT, u_cLt, u_cLe, u_cGt, u_cGe, u_cEq, u_cNe, u_cAnd, u_cOr, u_cNot, u_zN, u_zS, u_zD, u_zL, u_zI, u_zB, u_zP, u_zF, u_zA, u_zU, u_zC, u_zR, u_zRZ, u_zRC, u_zRV, u_zT, u_zE, u_zK, u_zY, ho_nid, List.getD_cons_zero, List.getD_cons_succ, List.set_cons_zero, List.set_cons_succ, List.cons_append, List.nil_append, List.take_succ_cons, List.take_zero, Int.reduceToNat, Int.toNat_natCast, nN_0, nN_1, nN_2, nN_3, nN_4, nN_5, nN_6, nN_7, nN_8, nN_9, nN_10, nN_11, nN_12, nN_13, nN_14, nN_15, nN_16, nN_17, nN_18, nN_19, nN_20, nN_21, nN_22, nN_23, nN_24, nN_25, nN_26, nN_27, nN_28, nN_29, nN_30, nN_31, nN_32, nN_33, nN_34, nN_35, nN_36, nN_37, nN_38, nN_39, nN_40, nN_41, nN_42, nN_43, nN_44, nN_45, nN_46, nN_47, nN_48, nN_49, nN_50, nN_51, nN_52, nN_53, nN_54, nR_0_0, nR_0_1, nR_0_2, nR_0_3, nR_0_4, nR_0_5, nR_0_6, nR_0_7, nR_0_8, nR_0_9, nR_0_10, nR_1_0, nR_1_1, nR_1_2, nR_1_3, nR_1_4, nR_2_0, nR_2_1, nR_2_2, nR_2_3, nR_2_4, nR_3_0, nR_3_1, nR_4_2, nR_5_2, nR_6_0, nR_6_1, nR_6_2, nR_7_0, nR_30_2, nR_30_3, nR_30_4, nR_30_6, nR_30_7, nR_30_9, nR_30_10, nR_30_11, nR_30_12, nR_30_13, nR_30_14, nR_30_15, nR_30_16, nR_30_18, nR_30_19, nR_30_20, nR_30_21, nR_30_22, nR_30_23, nR_30_24, nR_30_28, nR_30_29, nR_30_31, isf, sp_in, zlt, zle, zl1, zl2, zl3, z1l, z2l, z3l, z1e, z2e, z3e, z1n, z2n, z3n, z0n, z0e, true_implies, false_implies, and_true, true_and, ho_upE, bI_ne, bI_eq, true_or, or_true, e5]
    refine ⟨fun w => absurd w c, fun _ => ?_⟩
    trace_state
    sorry
  clear stop
  simp only [mX6_putBack, fX6_putBack, u_eC, u_eV, u_eF, u_eR, u_eI, u_eL, u_eB, u_eD, u_eM, u_eU, u_aN, u_aC, u_eK, u_eT, u_cLt, u_cLe, u_cGt, u_cGe, u_cEq, u_cNe, u_cAnd, u_cOr, u_cNot, u_zN, u_zS, u_zD, u_zL, u_zI, u_zB, u_zP, u_zF, u_zA, u_zU, u_zC, u_zR, u_zRZ, u_zRC, u_zRV, u_zT, u_zE, u_zK, u_zY, ho_nid, List.getD_cons_zero, List.getD_cons_succ, List.set_cons_zero, List.set_cons_succ, List.cons_append, List.nil_append, List.take_succ_cons, List.take_zero, Int.reduceToNat, Int.toNat_natCast, nN_0, nN_1, nN_2, nN_3, nN_4, nN_5, nN_6, nN_7, nN_8, nN_9, nN_10, nN_11, nN_12, nN_13, nN_14, nN_15, nN_16, nN_17, nN_18, nN_19, nN_20, nN_21, nN_22, nN_23, nN_24, nN_25, nN_26, nN_27, nN_28, nN_29, nN_30, nN_31, nN_32, nN_33, nN_34, nN_35, nN_36, nN_37, nN_38, nN_39, nN_40, nN_41, nN_42, nN_43, nN_44, nN_45, nN_46, nN_47, nN_48, nN_49, nN_50, nN_51, nN_52, nN_53, nN_54, nR_0_0, nR_0_1, nR_0_2, nR_0_3, nR_0_4, nR_0_5, nR_0_6, nR_0_7, nR_0_8, nR_0_9, nR_0_10, nR_1_0, nR_1_1, nR_1_2, nR_1_3, nR_1_4, nR_2_0, nR_2_1, nR_2_2, nR_2_3, nR_2_4, nR_3_0, nR_3_1, nR_4_2, nR_5_2, nR_6_0, nR_6_1, nR_6_2, nR_7_0, nR_30_2, nR_30_3, nR_30_4, nR_30_6, nR_30_7, nR_30_9, nR_30_10, nR_30_11, nR_30_12, nR_30_13, nR_30_14, nR_30_15, nR_30_16, nR_30_18, nR_30_19, nR_30_20, nR_30_21, nR_30_22, nR_30_23, nR_30_24, nR_30_28, nR_30_29, nR_30_31, sp_needFrame, sp_shotFrames, sp_fsize, sp_needSome, h1.2.2.1, h1.1]
  by_cases c0 : 0 ≤ s ∧ s < (S : Int)
  · have g12 : gi σ 12 s = σ 31 s.toNat := by
      rw [gi_in (by omega) (by have := h2.1; show s < (12 : Int); omega)]
      exact (h2.2.2.1 s.toNat (by omega)).1
    rw [g12]
    trace_state
    sorry
  · sorry
