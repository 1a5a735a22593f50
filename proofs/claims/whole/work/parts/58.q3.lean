theorem op_signAt {j : Nat} {σ : ho_S} {c t i : Int} (hj : j < 512) (hI : hi_Inv j σ) : mX6_signAt [0, c, t, i] σ (fun a σ => mX7_signAt [30, c, t, i] (ho_up σ 54 0 a) (fun b σ => σ 30 0 = 0 ∧ σ 54 0 = b ∧ hi_Inv (j + 1) σ) (fun _ _ => False)) (fun ec σ => (ec = 2 ∧ mX7_signAt [30, c, t, i] σ (fun _ σ => σ 30 0 = 1 ∧ hi_Inv (j + 1) σ) (fun _ _ => False))) := by
  have hI0 := hI
  obtain ⟨_, S, N, M, h1, h2, h3, h4, h5, h6, h7, h8, h9, h10, h11, h12, h13⟩ := hI
  have hM := h1.2.2.2.2.2.2
  have hN : N ≤ 4800 := by have := h2.1; have := h2.2.1; omega
  simp only [mX6_signAt, fX6_signAt, u_eC, u_eV, u_eF, u_eR, u_eI, u_eL, u_eB, u_eD, u_eM, u_eU, u_aN, u_aC, u_eK, u_eT, u_cLt, u_cLe, u_cGt, u_cGe, u_cEq, u_cNe, u_cAnd, u_cOr, u_cNot, u_zN, u_zS, u_zD, u_zL, u_zI, u_zB, u_zP, u_zF, u_zA, u_zU, u_zC, u_zR, u_zRZ, u_zRC, u_zRV, u_zT, u_zE, u_zK, u_zY, ho_nid, List.getD_cons_zero, List.getD_cons_succ, List.set_cons_zero, List.set_cons_succ, List.cons_append, List.nil_append, List.take_succ_cons, List.take_zero, Int.reduceToNat, Int.toNat_natCast, nN_0, nN_1, nN_2, nN_3, nN_4, nN_5, nN_6, nN_7, nN_8, nN_9, nN_10, nN_11, nN_12, nN_13, nN_14, nN_15, nN_16, nN_17, nN_18, nN_19, nN_20, nN_21, nN_22, nN_23, nN_24, nN_25, nN_26, nN_27, nN_28, nN_29, nN_30, nN_31, nN_32, nN_33, nN_34, nN_35, nN_36, nN_37, nN_38, nN_39, nN_40, nN_41, nN_42, nN_43, nN_44, nN_45, nN_46, nN_47, nN_48, nN_49, nN_50, nN_51, nN_52, nN_53, nN_54, nR_0_0, nR_0_1, nR_0_2, nR_0_3, nR_0_4, nR_0_5, nR_0_6, nR_0_7, nR_0_8, nR_0_9, nR_0_10, nR_1_0, nR_1_1, nR_1_2, nR_1_3, nR_1_4, nR_2_0, nR_2_1, nR_2_2, nR_2_3, nR_2_4, nR_3_0, nR_3_1, nR_4_2, nR_5_2, nR_6_0, nR_6_1, nR_6_2, nR_7_0, nR_30_2, nR_30_3, nR_30_4, nR_30_6, nR_30_7, nR_30_9, nR_30_10, nR_30_11, nR_30_12, nR_30_13, nR_30_14, nR_30_15, nR_30_16, nR_30_18, nR_30_19, nR_30_20, nR_30_21, nR_30_22, nR_30_23, nR_30_24, nR_30_28, nR_30_29, nR_30_31, sp_needText (σ := σ) (show σ 0 11 ≤ 16 by rw [h1.2.2.2.2.1]; omega), h1.2.2.2.2.1]
  by_cases cc : (0 ≤ c ∧ c < (M : Int)) ∧ 0 ≤ t ∧ t < 3
  · rw [if_pos cc]
    obtain ⟨c, rfl⟩ : ∃ y : Nat, c = (y : Int) := ⟨c.toNat, by omega⟩
    obtain ⟨t, rfl⟩ : ∃ y : Nat, t = (y : Int) := ⟨t.toNat, by omega⟩
    obtain ⟨n, T, hT, hT', hG⟩ := GX_TXT h8 (show 3 * c + t < 48 by omega)
    have hn := hT.2.1
    rw [c3]
    have e8 := h1.2.2.2.2.2.1
    have model : ∀ (τ : ho_S) (Q : ho_K), sm pSc σ τ → ((0 ≤ i ∧ i < (n : Int) → Q (T i.toNat) (ho_up τ 30 0 0)) ∧ (¬ (0 ≤ i ∧ i < (n : Int)) → Q 0 (ho_up τ 30 0 1))) → mX7_signAt [30, (c : Int), (t : Int), i] τ Q (fun _ _ => False) := by
      intro τ Q sτ hQ
      have m := mGS h1 sτ
      have it := fun (Q : ho_K) (X : ho_X) => sp_isText (σ := τ) (c := (c : Int)) (t := (t : Int)) (Q := Q) (X := X) (show 0 ≤ τ 30 8 by rw [m.2.2.2.2.2]; omega) (show τ 30 8 ≤ 16 by rw [m.2.2.2.2.2]; omega)
      rw [m.2.2.2.2.2] at it
      have hTτ := MTX_sm hT' sτ (fun _ => rfl) (fun _ => rfl)
      simp only [mX7_signAt, fX7_signAt, u_eC, u_eV, u_eF, u_eR, u_eI, u_eL, u_eB, u_eD, u_eM, u_eU, u_aN, u_aC, u_eK, u_eT, u_cLt, u_cLe, u_cGt, u_cGe, u_cEq, u_cNe, u_cAnd, u_cOr, u_cNot, u_zN, u_zS, u_zD, u_zL, u_zI, u_zB, u_zP, u_zF, u_zA, u_zU, u_zC, u_zR, u_zRZ, u_zRC, u_zRV, u_zT, u_zE, u_zK, u_zY, ho_nid, List.getD_cons_zero, List.getD_cons_succ, List.set_cons_zero, List.set_cons_succ, List.cons_append, List.nil_append, List.take_succ_cons, List.take_zero, Int.reduceToNat, Int.toNat_natCast, nN_0, nN_1, nN_2, nN_3, nN_4, nN_5, nN_6, nN_7, nN_8, nN_9, nN_10, nN_11, nN_12, nN_13, nN_14, nN_15, nN_16, nN_17, nN_18, nN_19, nN_20, nN_21, nN_22, nN_23, nN_24, nN_25, nN_26, nN_27, nN_28, nN_29, nN_30, nN_31, nN_32, nN_33, nN_34, nN_35, nN_36, nN_37, nN_38, nN_39, nN_40, nN_41, nN_42, nN_43, nN_44, nN_45, nN_46, nN_47, nN_48, nN_49, nN_50, nN_51, nN_52, nN_53, nN_54, nR_0_0, nR_0_1, nR_0_2, nR_0_3, nR_0_4, nR_0_5, nR_0_6, nR_0_7, nR_0_8, nR_0_9, nR_0_10, nR_1_0, nR_1_1, nR_1_2, nR_1_3, nR_1_4, nR_2_0, nR_2_1, nR_2_2, nR_2_3, nR_2_4, nR_3_0, nR_3_1, nR_4_2, nR_5_2, nR_6_0, nR_6_1, nR_6_2, nR_7_0, nR_30_2, nR_30_3, nR_30_4, nR_30_6, nR_30_7, nR_30_9, nR_30_10, nR_30_11, nR_30_12, nR_30_13, nR_30_14, nR_30_15, nR_30_16, nR_30_18, nR_30_19, nR_30_20, nR_30_21, nR_30_22, nR_30_23, nR_30_24, nR_30_28, nR_30_29, nR_30_31, it, sp_in, zlt, zle, zl1, zl2, zl3, z1l, z2l, z3l, z1e, z2e, z3e, z1n, z2n, z3n, z0n, z0e, true_implies, false_implies, and_true, true_and, ho_upE, bI_ne, bI_eq, true_or, or_true, mIdx (show c < 16 by omega) (show t < 3 by omega)]
      simp only [mR_30_2, mR_30_3, mR_30_4, mR_30_6, mR_30_7, mR_30_9, mR_30_10, mR_30_11, mR_30_12, mR_30_13, mR_30_14, mR_30_15, mR_30_16, mR_30_18, mR_30_19, mR_30_20, mR_30_21, mR_30_22, mR_30_23, mR_30_24, mR_30_28, mR_30_29, mR_30_31, mR_0_9, mR_7_0, nN_25, nN_26, nN_27, nN_28, nN_29, nN_30, nN_31, nN_32, nN_33, nN_34, nN_35, nN_36, nN_37, nN_38, nN_39, nN_40, nN_41, nN_42, nN_43, nN_44, nN_45, nN_46, nN_47, nN_48, nN_49, nN_50, nN_51, nN_52, nN_53, nN_54, Int.toNat_natCast, saF, saE, ho_upF, ho_upE, ne_eq, not_false_eq_true, Nat.reduceEqDiff, hTτ.1]
      rw [wsu (by omega) (by omega)]
      have hin : (0 ≤ i ∧ i ≤ (n : Int) - 1) ↔ (0 ≤ i ∧ i < (n : Int)) := by omega
      simp only [hin]
      refine ⟨fun _ => ⟨by omega, fun z => ?_, hQ.2⟩, fun z => absurd cc z⟩
      obtain ⟨w, rfl⟩ : ∃ w : Nat, i = (w : Int) := ⟨i.toNat, by omega⟩
      rw [o60 (by omega) (by omega), Int.toNat_natCast, MTX_at hTτ (by omega)]
      exact ⟨by omega, hQ.1 z⟩
    refine ⟨fun z => ?_, fun z => ?_⟩
    · exact ⟨trivial, model σ _ sm_rf ⟨fun y => by omega, fun _ => ⟨ho_upE, Inv_sc hj hI0 (sm_up sm_rf rfl)⟩⟩⟩
    · refine (sp_sizeT (by omega) hT).mpr ⟨fun y => ⟨trivial, model σ _ sm_rf ⟨fun w => by omega, fun _ => ⟨ho_upE, Inv_sc hj hI0 (sm_up sm_rf rfl)⟩⟩⟩, fun y => ?_⟩
      obtain ⟨w, rfl⟩ : ∃ w : Nat, i = (w : Int) := ⟨i.toNat, by omega⟩
      refine (sp_signT (by omega) hT).mpr ?_
      refine tau (fun τ sτ τ54 eτ => model τ _ sτ ⟨fun _ => ⟨ho_upE, τ54, Inv_sc hj hI0 (sm_up sτ rfl)⟩, fun y => by omega⟩)
  · rw [if_neg cc]
    refine ⟨trivial, ?_⟩
    simp only [mX7_signAt, fX7_signAt, mX7_asks, fX7_asks, u_eC, u_eV, u_eF, u_eR, u_eI, u_eL, u_eB, u_eD, u_eM, u_eU, u_aN, u_aC, u_eK, u_eT, u_cLt, u_cLe, u_cGt, u_cGe, u_cEq, u_cNe, u_cAnd, u_cOr, u_cNot, u_zN, u_zS, u_zD, u_zL, u_zI, u_zB, u_zP, u_zF, u_zA, u_zU, u_zC, u_zR, u_zRZ, u_zRC, u_zRV, u_zT, u_zE, u_zK, u_zY, ho_nid, List.getD_cons_zero, List.getD_cons_succ, List.set_cons_zero, List.set_cons_succ, List.cons_append, List.nil_append, List.take_succ_cons, List.take_zero, Int.reduceToNat, Int.toNat_natCast, nN_0, nN_1, nN_2, nN_3, nN_4, nN_5, nN_6, nN_7, nN_8, nN_9, nN_10, nN_11, nN_12, nN_13, nN_14, nN_15, nN_16, nN_17, nN_18, nN_19, nN_20, nN_21, nN_22, nN_23, nN_24, nN_25, nN_26, nN_27, nN_28, nN_29, nN_30, nN_31, nN_32, nN_33, nN_34, nN_35, nN_36, nN_37, nN_38, nN_39, nN_40, nN_41, nN_42, nN_43, nN_44, nN_45, nN_46, nN_47, nN_48, nN_49, nN_50, nN_51, nN_52, nN_53, nN_54, nR_0_0, nR_0_1, nR_0_2, nR_0_3, nR_0_4, nR_0_5, nR_0_6, nR_0_7, nR_0_8, nR_0_9, nR_0_10, nR_1_0, nR_1_1, nR_1_2, nR_1_3, nR_1_4, nR_2_0, nR_2_1, nR_2_2, nR_2_3, nR_2_4, nR_3_0, nR_3_1, nR_4_2, nR_5_2, nR_6_0, nR_6_1, nR_6_2, nR_7_0, nR_30_2, nR_30_3, nR_30_4, nR_30_6, nR_30_7, nR_30_9, nR_30_10, nR_30_11, nR_30_12, nR_30_13, nR_30_14, nR_30_15, nR_30_16, nR_30_18, nR_30_19, nR_30_20, nR_30_21, nR_30_22, nR_30_23, nR_30_24, nR_30_28, nR_30_29, nR_30_31, sp_isText (σ := σ) (show 0 ≤ σ 30 8 by rw [h1.2.2.2.2.2.1]; omega) (show σ 30 8 ≤ 16 by rw [h1.2.2.2.2.2.1]; omega), zlt, zle, zl1, zl2, zl3, z1l, z2l, z3l, z1e, z2e, z3e, z1n, z2n, z3n, z0n, z0e, true_implies, false_implies, and_true, true_and, ho_upE, bI_ne, bI_eq, true_or, or_true, h1.2.2.2.2.2.1]
    exact ⟨fun z => absurd z cc, fun _ => Inv_sc hj hI0 (sm_up sm_rf rfl)⟩

theorem brk_eq {j S N M c t n : Nat} {σ : ho_S} {T : Nat → Int} (h2 : GF S N σ) (h6 : GT N M σ) (h7 : GK σ) (h9 : GB j σ) (h13 : GW σ) (hc : c < M) (hM : M ≤ 16) (ht : t < 3) : RB (σ 13) (σ 14) (σ 26) (σ 34) (decide (0 < t ∧ 0 < n ∧ σ 43 (3 * c + t) < σ 43 (3 * c))) T n (σ 0 12) (σ 0 13) M c = RB (σ 37) (σ 38) (σ 36) (σ 34) (decide (0 < t ∧ 0 < n ∧ σ 43 (3 * c + t) < σ 43 (3 * c))) T n (σ 30 25) (σ 30 26) M c := by
  rw [h13.1, h13.2.2.2.1]
  have a := (GT_TM h6).2 c hc
  exact RB_congr (N := N) hc (fun k hk => ⟨(h6.1 k hk).1, (h6.1 k hk).2.1, (h7 k (by omega)).1⟩) (fun p _ => rfl) (by omega)
theorem stl_iff {j c t n : Nat} {σ : ho_S} (h9 : GB j σ) (hc : c < 16) (ht : t < 3) : decide (0 < t ∧ 0 < n ∧ σ 43 (3 * c + t) < σ 43 (3 * c)) = true ↔ (σ 28 (3 * c + t) ≠ 0 ∧ 0 < n) := by
  rw [decide_eq_true_eq]
  have b := h9.1 c hc
  by_cases z : t = 0
  · subst z
    rw [Nat.add_zero, b.1]
    constructor
    · intro w; omega
    · intro w; exact absurd rfl w.1
  · have b2 := b.2 t (by omega) ht
    constructor
    · intro w; exact ⟨b2.mpr w.2.2, w.2.1⟩
    · intro w; exact ⟨by omega, w.2, b2.mp w.1⟩
/-- both sides of a set of broken rules, from any state that differs in what is scribbled on -/
theorem brk_c {j S N M c t n : Nat} {σ τ : ho_S} {T : Nat → Int} {Q : ho_K} {X : ho_X} (h1 : GS S N M σ) (h2 : GF S N σ) (h6 : GT N M σ) (h7 : GK σ) (h9 : GB j σ) (h13 : GW σ) (hc : c < M) (ht : t < 3) (hT : TXT σ (3 * c + t) n T) (s : sm pSc σ τ) (h : ∀ τ', sm pSc σ τ' → sm pLy τ τ' → Q (RB (σ 37) (σ 38) (σ 36) (σ 34) (decide (0 < t ∧ 0 < n ∧ σ 43 (3 * c + t) < σ 43 (3 * c))) T n (σ 30 25) (σ 30 26) M c) τ') : mX6_brokenRules [0, (c : Int), (t : Int)] τ Q X := by
  have hM := h1.2.2.2.2.2.2
  have hN : N ≤ 4800 := by have := h2.1; have := h2.2.1; omega
  have m := mGS h1 s
  have e13 : τ 13 = σ 13 := sm_fn s 13 (fun _ => rfl)
  have e14 : τ 14 = σ 14 := sm_fn s 14 (fun _ => rfl)
  have e26 : τ 26 = σ 26 := sm_fn s 26 (fun _ => rfl)
  have e8 : τ 8 = σ 8 := sm_fn s 8 (fun _ => rfl)
  have e28 : τ 28 = σ 28 := sm_fn s 28 (fun _ => rfl)
  have e12 : τ 0 12 = σ 0 12 := s 0 12 rfl
  have e113 : τ 0 13 = σ 0 13 := s 0 13 rfl
  refine sp_brokenRules (F := σ 34) (N := N) (stale := decide (0 < t ∧ 0 < n ∧ σ 43 (3 * c + t) < σ 43 (3 * c))) hc m.2.2.2.2.1 hM ht (TXT_sm hT s (fun _ => rfl) (fun _ => rfl)) (by rw [e8]; exact h2.2.2.2.1) hN (by rw [e13, e14]; exact (GT_TM h6).2) (by rw [e113]; have := h13; unfold GW at this; omega) (by rw [e28]; exact stl_iff h9 (by omega) ht) (fun τ' s' => ?_)
  rw [e13, e14, e26, e12, e113, brk_eq h2 h6 h7 h9 h13 hc hM ht]
  exact h τ' (sm_tr s (sm_w s' pSc_ly)) s'
theorem brk_m {S N M c t n : Nat} {σ τ : ho_S} {T : Nat → Int} {Q : ho_K} {X : ho_X} (h1 : GS S N M σ) (h2 : GF S N σ) (h6 : GT N M σ) (h13 : GW σ) (hc : c < M) (ht : t < 3) (hT : MTX σ (3 * c + t) n T) (s : sm pSc σ τ) (h : ∀ τ', sm pSc σ τ' → sm pRo τ τ' → Q (RB (σ 37) (σ 38) (σ 36) (σ 34) (decide (0 < t ∧ 0 < n ∧ σ 43 (3 * c + t) < σ 43 (3 * c))) T n (σ 30 25) (σ 30 26) M c) τ') : mX7_brokenBy [30, (c : Int), (t : Int)] τ Q X := by
  have hM := h1.2.2.2.2.2.2
  have hN : N ≤ 4800 := by have := h2.1; have := h2.2.1; omega
  have m := mGS h1 s
  have e37 : τ 37 = σ 37 := sm_fn s 37 (fun _ => rfl)
  have e38 : τ 38 = σ 38 := sm_fn s 38 (fun _ => rfl)
  have e36 : τ 36 = σ 36 := sm_fn s 36 (fun _ => rfl)
  have e34 : τ 34 = σ 34 := sm_fn s 34 (fun _ => rfl)
  have e43 : τ 43 = σ 43 := sm_fn s 43 (fun _ => rfl)
  have e25 : τ 30 25 = σ 30 25 := s 30 25 rfl
  have e26 : τ 30 26 = σ 30 26 := s 30 26 rfl
  have w9 := h13
  unfold GW at w9
  refine sp_brokenBy (N := N) hc m.2.2.2.2.2 hM ht (MTX_sm hT s (fun _ => rfl) (fun _ => rfl)) (by rw [e34]; exact fun i hi => ⟨(h2.2.2.2.1 i hi).1, (h2.2.2.2.1 i hi).2.1⟩) hN (by rw [e37, e38]; exact (GT_TM h6).1) (by rw [e26]; omega) (by rw [e25]; omega) (fun τ' s' => ?_)
  rw [e37, e38, e36, e34, e43, e25, e26]
  exact h τ' (sm_tr s (sm_w s' pSc_ro)) s'
theorem RB_256 {st ln lk F : Nat → Int} {stale : Bool} {T : Nat → Int} {n : Nat} {W sp : Int} {M c : Nat} : ∃ x : Nat, RB st ln lk F stale T n W sp M c = (x : Int) ∧ x < 256 := by
  have h := BS_rg
  unfold RB
  have := h (decide (n = 0)) (decide (2 < (rws T W n).length) || decide (W < wid T (rws T W n))) (decide (0 < ln c) && decide (sp * ln c < 25 * pre T n)) (decide (0 < ln c) && anyb (hangP F (st c).toNat (ln c).toNat) ((ln c).toNat - 1)) (decide (0 < ln c) && anyb (closeP st ln lk c) M) stale (!decide (0 < ln c)) (decide (lk c = 1) && (decide (0 < n) && !voB T n))
  generalize BS (decide (n = 0)) (decide (2 < (rws T W n).length) || decide (W < wid T (rws T W n))) (decide (0 < ln c) && decide (sp * ln c < 25 * pre T n)) (decide (0 < ln c) && anyb (hangP F (st c).toNat (ln c).toNat) ((ln c).toNat - 1)) (decide (0 < ln c) && anyb (closeP st ln lk c) M) stale (!decide (0 < ln c)) (decide (lk c = 1) && (decide (0 < n) && !voB T n)) = y at this ⊢
  exact ⟨y.toNat, by omega, by omega⟩

theorem op_broken {j : Nat} {σ : ho_S} {c t : Int} (hj : j < 512) (hI : hi_Inv j σ) : mX6_broken [0, c, t] σ (fun a σ => mX7_broken [30, c, t] (ho_up σ 54 0 a) (fun b σ => σ 30 0 = 0 ∧ σ 54 0 = b ∧ hi_Inv (j + 1) σ) (fun _ _ => False)) (fun ec σ => (ec = 2 ∧ mX7_broken [30, c, t] σ (fun _ σ => σ 30 0 = 1 ∧ hi_Inv (j + 1) σ) (fun _ _ => False))) := by
  have hI0 := hI
  obtain ⟨_, S, N, M, h1, h2, h3, h4, h5, h6, h7, h8, h9, h10, h11, h12, h13⟩ := hI
  have hM := h1.2.2.2.2.2.2
  have hN : N ≤ 4800 := by have := h2.1; have := h2.2.1; omega
  simp only [mX6_broken, fX6_broken, u_eC, u_eV, u_eF, u_eR, u_eI, u_eL, u_eB, u_eD, u_eM, u_eU, u_aN, u_aC, u_eK, u_eT, u_cLt, u_cLe, u_cGt, u_cGe, u_cEq, u_cNe, u_cAnd, u_cOr, u_cNot, u_zN, u_zS, u_zD, u_zL, u_zI, u_zB, u_zP, u_zF, u_zA, u_zU, u_zC, u_zR, u_zRZ, u_zRC, u_zRV, u_zT, u_zE, u_zK, u_zY, ho_nid, List.getD_cons_zero, List.getD_cons_succ, List.set_cons_zero, List.set_cons_succ, List.cons_append, List.nil_append, List.take_succ_cons, List.take_zero, Int.reduceToNat, Int.toNat_natCast, nN_0, nN_1, nN_2, nN_3, nN_4, nN_5, nN_6, nN_7, nN_8, nN_9, nN_10, nN_11, nN_12, nN_13, nN_14, nN_15, nN_16, nN_17, nN_18, nN_19, nN_20, nN_21, nN_22, nN_23, nN_24, nN_25, nN_26, nN_27, nN_28, nN_29, nN_30, nN_31, nN_32, nN_33, nN_34, nN_35, nN_36, nN_37, nN_38, nN_39, nN_40, nN_41, nN_42, nN_43, nN_44, nN_45, nN_46, nN_47, nN_48, nN_49, nN_50, nN_51, nN_52, nN_53, nN_54, nR_0_0, nR_0_1, nR_0_2, nR_0_3, nR_0_4, nR_0_5, nR_0_6, nR_0_7, nR_0_8, nR_0_9, nR_0_10, nR_1_0, nR_1_1, nR_1_2, nR_1_3, nR_1_4, nR_2_0, nR_2_1, nR_2_2, nR_2_3, nR_2_4, nR_3_0, nR_3_1, nR_4_2, nR_5_2, nR_6_0, nR_6_1, nR_6_2, nR_7_0, nR_30_2, nR_30_3, nR_30_4, nR_30_6, nR_30_7, nR_30_9, nR_30_10, nR_30_11, nR_30_12, nR_30_13, nR_30_14, nR_30_15, nR_30_16, nR_30_18, nR_30_19, nR_30_20, nR_30_21, nR_30_22, nR_30_23, nR_30_24, nR_30_28, nR_30_29, nR_30_31, sp_needText (σ := σ) (show σ 0 11 ≤ 16 by rw [h1.2.2.2.2.1]; omega), h1.2.2.2.2.1]
  by_cases cc : (0 ≤ c ∧ c < (M : Int)) ∧ 0 ≤ t ∧ t < 3
  · rw [if_pos cc]
    obtain ⟨c, rfl⟩ : ∃ y : Nat, c = (y : Int) := ⟨c.toNat, by omega⟩
    obtain ⟨t, rfl⟩ : ∃ y : Nat, t = (y : Int) := ⟨t.toNat, by omega⟩
    obtain ⟨n, T, hT, hT', hG⟩ := GX_TXT h8 (show 3 * c + t < 48 by omega)
    have hn := hT.2.1
    refine brk_c h1 h2 h6 h7 h9 h13 (by omega) (by omega) hT sm_rf (fun σ1 s1 _ => ?_)
    refine tau (fun τ sτ1 τ54 eτ => ?_)
    have sτ := sm_tr s1 sτ1
    have m := mGS h1 sτ
    have it := fun (Q : ho_K) (X : ho_X) => sp_isText (σ := τ) (c := (c : Int)) (t := (t : Int)) (Q := Q) (X := X) (show 0 ≤ τ 30 8 by rw [m.2.2.2.2.2]; omega) (show τ 30 8 ≤ 16 by rw [m.2.2.2.2.2]; omega)
    rw [m.2.2.2.2.2] at it
    simp only [mX7_broken, fX7_broken, mX7_asks, fX7_asks, u_eC, u_eV, u_eF, u_eR, u_eI, u_eL, u_eB, u_eD, u_eM, u_eU, u_aN, u_aC, u_eK, u_eT, u_cLt, u_cLe, u_cGt, u_cGe, u_cEq, u_cNe, u_cAnd, u_cOr, u_cNot, u_zN, u_zS, u_zD, u_zL, u_zI, u_zB, u_zP, u_zF, u_zA, u_zU, u_zC, u_zR, u_zRZ, u_zRC, u_zRV, u_zT, u_zE, u_zK, u_zY, ho_nid, List.getD_cons_zero, List.getD_cons_succ, List.set_cons_zero, List.set_cons_succ, List.cons_append, List.nil_append, List.take_succ_cons, List.take_zero, Int.reduceToNat, Int.toNat_natCast, nN_0, nN_1, nN_2, nN_3, nN_4, nN_5, nN_6, nN_7, nN_8, nN_9, nN_10, nN_11, nN_12, nN_13, nN_14, nN_15, nN_16, nN_17, nN_18, nN_19, nN_20, nN_21, nN_22, nN_23, nN_24, nN_25, nN_26, nN_27, nN_28, nN_29, nN_30, nN_31, nN_32, nN_33, nN_34, nN_35, nN_36, nN_37, nN_38, nN_39, nN_40, nN_41, nN_42, nN_43, nN_44, nN_45, nN_46, nN_47, nN_48, nN_49, nN_50, nN_51, nN_52, nN_53, nN_54, nR_0_0, nR_0_1, nR_0_2, nR_0_3, nR_0_4, nR_0_5, nR_0_6, nR_0_7, nR_0_8, nR_0_9, nR_0_10, nR_1_0, nR_1_1, nR_1_2, nR_1_3, nR_1_4, nR_2_0, nR_2_1, nR_2_2, nR_2_3, nR_2_4, nR_3_0, nR_3_1, nR_4_2, nR_5_2, nR_6_0, nR_6_1, nR_6_2, nR_7_0, nR_30_2, nR_30_3, nR_30_4, nR_30_6, nR_30_7, nR_30_9, nR_30_10, nR_30_11, nR_30_12, nR_30_13, nR_30_14, nR_30_15, nR_30_16, nR_30_18, nR_30_19, nR_30_20, nR_30_21, nR_30_22, nR_30_23, nR_30_24, nR_30_28, nR_30_29, nR_30_31, it, zlt, zle, zl1, zl2, zl3, z1l, z2l, z3l, z1e, z2e, z3e, z1n, z2n, z3n, z0n, z0e, true_implies, false_implies, and_true, true_and, ho_upE, bI_ne, bI_eq, true_or, or_true]
    refine ⟨fun _ => ?_, fun z => absurd cc z⟩
    have sτ0 : sm pSc σ (ho_up τ 30 0 0) := sm_up sτ rfl
    refine brk_m h1 h2 h6 h13 (by omega) (by omega) hT' sτ0 (fun τ2 s2 s2' => ?_)
    exact ⟨(s2' 30 0 rfl).trans ho_upE, (s2' 54 0 rfl).trans τ54, Inv_sc hj hI0 s2⟩
  · rw [if_neg cc]
    refine ⟨trivial, ?_⟩
    simp only [mX7_broken, fX7_broken, mX7_asks, fX7_asks, u_eC, u_eV, u_eF, u_eR, u_eI, u_eL, u_eB, u_eD, u_eM, u_eU, u_aN, u_aC, u_eK, u_eT, u_cLt, u_cLe, u_cGt, u_cGe, u_cEq, u_cNe, u_cAnd, u_cOr, u_cNot, u_zN, u_zS, u_zD, u_zL, u_zI, u_zB, u_zP, u_zF, u_zA, u_zU, u_zC, u_zR, u_zRZ, u_zRC, u_zRV, u_zT, u_zE, u_zK, u_zY, ho_nid, List.getD_cons_zero, List.getD_cons_succ, List.set_cons_zero, List.set_cons_succ, List.cons_append, List.nil_append, List.take_succ_cons, List.take_zero, Int.reduceToNat, Int.toNat_natCast, nN_0, nN_1, nN_2, nN_3, nN_4, nN_5, nN_6, nN_7, nN_8, nN_9, nN_10, nN_11, nN_12, nN_13, nN_14, nN_15, nN_16, nN_17, nN_18, nN_19, nN_20, nN_21, nN_22, nN_23, nN_24, nN_25, nN_26, nN_27, nN_28, nN_29, nN_30, nN_31, nN_32, nN_33, nN_34, nN_35, nN_36, nN_37, nN_38, nN_39, nN_40, nN_41, nN_42, nN_43, nN_44, nN_45, nN_46, nN_47, nN_48, nN_49, nN_50, nN_51, nN_52, nN_53, nN_54, nR_0_0, nR_0_1, nR_0_2, nR_0_3, nR_0_4, nR_0_5, nR_0_6, nR_0_7, nR_0_8, nR_0_9, nR_0_10, nR_1_0, nR_1_1, nR_1_2, nR_1_3, nR_1_4, nR_2_0, nR_2_1, nR_2_2, nR_2_3, nR_2_4, nR_3_0, nR_3_1, nR_4_2, nR_5_2, nR_6_0, nR_6_1, nR_6_2, nR_7_0, nR_30_2, nR_30_3, nR_30_4, nR_30_6, nR_30_7, nR_30_9, nR_30_10, nR_30_11, nR_30_12, nR_30_13, nR_30_14, nR_30_15, nR_30_16, nR_30_18, nR_30_19, nR_30_20, nR_30_21, nR_30_22, nR_30_23, nR_30_24, nR_30_28, nR_30_29, nR_30_31, sp_isText (σ := σ) (show 0 ≤ σ 30 8 by rw [h1.2.2.2.2.2.1]; omega) (show σ 30 8 ≤ 16 by rw [h1.2.2.2.2.2.1]; omega), zlt, zle, zl1, zl2, zl3, z1l, z2l, z3l, z1e, z2e, z3e, z1n, z2n, z3n, z0n, z0e, true_implies, false_implies, and_true, true_and, ho_upE, bI_ne, bI_eq, true_or, or_true, h1.2.2.2.2.2.1]
    exact ⟨fun z => absurd z cc, fun _ => Inv_sc hj hI0 (sm_up sm_rf rfl)⟩

theorem op_nameOf {j : Nat} {σ : ho_S} {c t r : Int} (hj : j < 512) (hI : hi_Inv j σ) : mX6_nameOf [0, c, t, r] σ (fun a σ => mX7_nameOf [30, c, t, r] (ho_up σ 54 0 a) (fun b σ => σ 30 0 = 0 ∧ σ 54 0 = b ∧ hi_Inv (j + 1) σ) (fun _ _ => False)) (fun ec σ => (ec = 2 ∧ mX7_nameOf [30, c, t, r] σ (fun _ σ => σ 30 0 = 1 ∧ hi_Inv (j + 1) σ) (fun _ _ => False))) := by
  have hI0 := hI
  obtain ⟨_, S, N, M, h1, h2, h3, h4, h5, h6, h7, h8, h9, h10, h11, h12, h13⟩ := hI
  have hM := h1.2.2.2.2.2.2
  have hN : N ≤ 4800 := by have := h2.1; have := h2.2.1; omega
  simp only [mX6_nameOf, fX6_nameOf, u_eC, u_eV, u_eF, u_eR, u_eI, u_eL, u_eB, u_eD, u_eM, u_eU, u_aN, u_aC, u_eK, u_eT, u_cLt, u_cLe, u_cGt, u_cGe, u_cEq, u_cNe, u_cAnd, u_cOr, u_cNot, u_zN, u_zS, u_zD, u_zL, u_zI, u_zB, u_zP, u_zF, u_zA, u_zU, u_zC, u_zR, u_zRZ, u_zRC, u_zRV, u_zT, u_zE, u_zK, u_zY, ho_nid, List.getD_cons_zero, List.getD_cons_succ, List.set_cons_zero, List.set_cons_succ, List.cons_append, List.nil_append, List.take_succ_cons, List.take_zero, Int.reduceToNat, Int.toNat_natCast, nN_0, nN_1, nN_2, nN_3, nN_4, nN_5, nN_6, nN_7, nN_8, nN_9, nN_10, nN_11, nN_12, nN_13, nN_14, nN_15, nN_16, nN_17, nN_18, nN_19, nN_20, nN_21, nN_22, nN_23, nN_24, nN_25, nN_26, nN_27, nN_28, nN_29, nN_30, nN_31, nN_32, nN_33, nN_34, nN_35, nN_36, nN_37, nN_38, nN_39, nN_40, nN_41, nN_42, nN_43, nN_44, nN_45, nN_46, nN_47, nN_48, nN_49, nN_50, nN_51, nN_52, nN_53, nN_54, nR_0_0, nR_0_1, nR_0_2, nR_0_3, nR_0_4, nR_0_5, nR_0_6, nR_0_7, nR_0_8, nR_0_9, nR_0_10, nR_1_0, nR_1_1, nR_1_2, nR_1_3, nR_1_4, nR_2_0, nR_2_1, nR_2_2, nR_2_3, nR_2_4, nR_3_0, nR_3_1, nR_4_2, nR_5_2, nR_6_0, nR_6_1, nR_6_2, nR_7_0, nR_30_2, nR_30_3, nR_30_4, nR_30_6, nR_30_7, nR_30_9, nR_30_10, nR_30_11, nR_30_12, nR_30_13, nR_30_14, nR_30_15, nR_30_16, nR_30_18, nR_30_19, nR_30_20, nR_30_21, nR_30_22, nR_30_23, nR_30_24, nR_30_28, nR_30_29, nR_30_31, sp_needText (σ := σ) (show σ 0 11 ≤ 16 by rw [h1.2.2.2.2.1]; omega), h1.2.2.2.2.1]
  by_cases cc : (0 ≤ c ∧ c < (M : Int)) ∧ 0 ≤ t ∧ t < 3
  · rw [if_pos cc]
    obtain ⟨c, rfl⟩ : ∃ y : Nat, c = (y : Int) := ⟨c.toNat, by omega⟩
    obtain ⟨t, rfl⟩ : ∃ y : Nat, t = (y : Int) := ⟨t.toNat, by omega⟩
    obtain ⟨n, T, hT, hT', hG⟩ := GX_TXT h8 (show 3 * c + t < 48 by omega)
    have hn := hT.2.1
    rw [c3]
    have e8 := h1.2.2.2.2.2.1
    have model : ∀ (τ : ho_S) (Q : ho_K), sm pSc σ τ → ((∀ w : Nat, r = (w : Int) → w < 8 → Q (σ 44 (8 * (3 * c + t) + w)) (ho_up τ 30 0 0)) ∧ (¬ (0 ≤ r ∧ r ≤ 7) → Q 0 (ho_up τ 30 0 1))) → mX7_nameOf [30, (c : Int), (t : Int), r] τ Q (fun _ _ => False) := by
      intro τ Q sτ hQ
      have m := mGS h1 sτ
      have it := fun (Q : ho_K) (X : ho_X) => sp_isText (σ := τ) (c := (c : Int)) (t := (t : Int)) (Q := Q) (X := X) (show 0 ≤ τ 30 8 by rw [m.2.2.2.2.2]; omega) (show τ 30 8 ≤ 16 by rw [m.2.2.2.2.2]; omega)
      rw [m.2.2.2.2.2] at it
      have e44 : τ 44 = σ 44 := sm_fn sτ 44 (fun _ => rfl)
      simp only [mX7_nameOf, fX7_nameOf, u_eC, u_eV, u_eF, u_eR, u_eI, u_eL, u_eB, u_eD, u_eM, u_eU, u_aN, u_aC, u_eK, u_eT, u_cLt, u_cLe, u_cGt, u_cGe, u_cEq, u_cNe, u_cAnd, u_cOr, u_cNot, u_zN, u_zS, u_zD, u_zL, u_zI, u_zB, u_zP, u_zF, u_zA, u_zU, u_zC, u_zR, u_zRZ, u_zRC, u_zRV, u_zT, u_zE, u_zK, u_zY, ho_nid, List.getD_cons_zero, List.getD_cons_succ, List.set_cons_zero, List.set_cons_succ, List.cons_append, List.nil_append, List.take_succ_cons, List.take_zero, Int.reduceToNat, Int.toNat_natCast, nN_0, nN_1, nN_2, nN_3, nN_4, nN_5, nN_6, nN_7, nN_8, nN_9, nN_10, nN_11, nN_12, nN_13, nN_14, nN_15, nN_16, nN_17, nN_18, nN_19, nN_20, nN_21, nN_22, nN_23, nN_24, nN_25, nN_26, nN_27, nN_28, nN_29, nN_30, nN_31, nN_32, nN_33, nN_34, nN_35, nN_36, nN_37, nN_38, nN_39, nN_40, nN_41, nN_42, nN_43, nN_44, nN_45, nN_46, nN_47, nN_48, nN_49, nN_50, nN_51, nN_52, nN_53, nN_54, nR_0_0, nR_0_1, nR_0_2, nR_0_3, nR_0_4, nR_0_5, nR_0_6, nR_0_7, nR_0_8, nR_0_9, nR_0_10, nR_1_0, nR_1_1, nR_1_2, nR_1_3, nR_1_4, nR_2_0, nR_2_1, nR_2_2, nR_2_3, nR_2_4, nR_3_0, nR_3_1, nR_4_2, nR_5_2, nR_6_0, nR_6_1, nR_6_2, nR_7_0, nR_30_2, nR_30_3, nR_30_4, nR_30_6, nR_30_7, nR_30_9, nR_30_10, nR_30_11, nR_30_12, nR_30_13, nR_30_14, nR_30_15, nR_30_16, nR_30_18, nR_30_19, nR_30_20, nR_30_21, nR_30_22, nR_30_23, nR_30_24, nR_30_28, nR_30_29, nR_30_31, it, sp_in, zlt, zle, zl1, zl2, zl3, z1l, z2l, z3l, z1e, z2e, z3e, z1n, z2n, z3n, z0n, z0e, true_implies, false_implies, and_true, true_and, ho_upE, bI_ne, bI_eq, true_or, or_true, mIdx (show c < 16 by omega) (show t < 3 by omega)]
      simp only [mR_30_2, mR_30_3, mR_30_4, mR_30_6, mR_30_7, mR_30_9, mR_30_10, mR_30_11, mR_30_12, mR_30_13, mR_30_14, mR_30_15, mR_30_16, mR_30_18, mR_30_19, mR_30_20, mR_30_21, mR_30_22, mR_30_23, mR_30_24, mR_30_28, mR_30_29, mR_30_31, mR_0_9, mR_7_0, nN_25, nN_26, nN_27, nN_28, nN_29, nN_30, nN_31, nN_32, nN_33, nN_34, nN_35, nN_36, nN_37, nN_38, nN_39, nN_40, nN_41, nN_42, nN_43, nN_44, nN_45, nN_46, nN_47, nN_48, nN_49, nN_50, nN_51, nN_52, nN_53, nN_54, Int.toNat_natCast, saF, saE, ho_upF, ho_upE, ne_eq, not_false_eq_true, Nat.reduceEqDiff]
      refine ⟨fun _ => ⟨fun z => ?_, hQ.2⟩, fun z => absurd cc z⟩
      obtain ⟨w, rfl⟩ : ∃ w : Nat, r = (w : Int) := ⟨r.toNat, by omega⟩
      have ix : ho_oadd (ho_omul 8 ((3 * c + t : Nat) : Int)) (w : Int) = ((8 * (3 * c + t) + w : Nat) : Int) := by
        rw [wmu (by omega) (by omega), wad (by omega) (by omega)]; omega
      rw [ix, Int.toNat_natCast, e44]
      clear ix
      exact ⟨by omega, hQ.1 w rfl (by omega)⟩
    simp only [sp_needRule]
    by_cases z : 0 ≤ r ∧ r < 8
    · rw [if_pos z]
      obtain ⟨w, rfl⟩ : ∃ w : Nat, r = (w : Int) := ⟨r.toNat, by omega⟩
      refine sp_item.mpr ?_
      rw [o8c (by omega) (by omega), gi27 (by omega), h10 _ (by omega)]
      refine tau (fun τ sτ τ54 eτ => model τ _ sτ ⟨fun w' hw' _ => ⟨ho_upE, ?_, Inv_sc hj hI0 (sm_up sτ rfl)⟩, fun y => by omega⟩)
      rw [show w' = w by omega]
      exact τ54
    · rw [if_neg z]
      exact ⟨trivial, model σ _ sm_rf ⟨fun w' hw' _ => by omega, fun _ => ⟨ho_upE, Inv_sc hj hI0 (sm_up sm_rf rfl)⟩⟩⟩
  · rw [if_neg cc]
    refine ⟨trivial, ?_⟩
    simp only [mX7_nameOf, fX7_nameOf, mX7_asks, fX7_asks, u_eC, u_eV, u_eF, u_eR, u_eI, u_eL, u_eB, u_eD, u_eM, u_eU, u_aN, u_aC, u_eK, u_eT, u_cLt, u_cLe, u_cGt, u_cGe, u_cEq, u_cNe, u_cAnd, u_cOr, u_cNot, u_zN, u_zS, u_zD, u_zL, u_zI, u_zB, u_zP, u_zF, u_zA, u_zU, u_zC, u_zR, u_zRZ, u_zRC, u_zRV, u_zT, u_zE, u_zK, u_zY, ho_nid, List.getD_cons_zero, List.getD_cons_succ, List.set_cons_zero, List.set_cons_succ, List.cons_append, List.nil_append, List.take_succ_cons, List.take_zero, Int.reduceToNat, Int.toNat_natCast, nN_0, nN_1, nN_2, nN_3, nN_4, nN_5, nN_6, nN_7, nN_8, nN_9, nN_10, nN_11, nN_12, nN_13, nN_14, nN_15, nN_16, nN_17, nN_18, nN_19, nN_20, nN_21, nN_22, nN_23, nN_24, nN_25, nN_26, nN_27, nN_28, nN_29, nN_30, nN_31, nN_32, nN_33, nN_34, nN_35, nN_36, nN_37, nN_38, nN_39, nN_40, nN_41, nN_42, nN_43, nN_44, nN_45, nN_46, nN_47, nN_48, nN_49, nN_50, nN_51, nN_52, nN_53, nN_54, nR_0_0, nR_0_1, nR_0_2, nR_0_3, nR_0_4, nR_0_5, nR_0_6, nR_0_7, nR_0_8, nR_0_9, nR_0_10, nR_1_0, nR_1_1, nR_1_2, nR_1_3, nR_1_4, nR_2_0, nR_2_1, nR_2_2, nR_2_3, nR_2_4, nR_3_0, nR_3_1, nR_4_2, nR_5_2, nR_6_0, nR_6_1, nR_6_2, nR_7_0, nR_30_2, nR_30_3, nR_30_4, nR_30_6, nR_30_7, nR_30_9, nR_30_10, nR_30_11, nR_30_12, nR_30_13, nR_30_14, nR_30_15, nR_30_16, nR_30_18, nR_30_19, nR_30_20, nR_30_21, nR_30_22, nR_30_23, nR_30_24, nR_30_28, nR_30_29, nR_30_31, sp_isText (σ := σ) (show 0 ≤ σ 30 8 by rw [h1.2.2.2.2.2.1]; omega) (show σ 30 8 ≤ 16 by rw [h1.2.2.2.2.2.1]; omega), zlt, zle, zl1, zl2, zl3, z1l, z2l, z3l, z1e, z2e, z3e, z1n, z2n, z3n, z0n, z0e, true_implies, false_implies, and_true, true_and, ho_upE, bI_ne, bI_eq, true_or, or_true, h1.2.2.2.2.2.1]
    exact ⟨fun z => absurd z cc, fun _ => Inv_sc hj hI0 (sm_up sm_rf rfl)⟩

theorem op_memory {j : Nat} {σ : ho_S} {t : Int} (hj : j < 512) (hI : hi_Inv j σ) : mX6_memory [0, t] σ (fun a σ => mX7_memory [30, t] (ho_up σ 54 0 a) (fun b σ => σ 30 0 = 0 ∧ σ 54 0 = b ∧ hi_Inv (j + 1) σ) (fun _ _ => False)) (fun ec σ => (ec = 2 ∧ mX7_memory [30, t] σ (fun _ σ => σ 30 0 = 1 ∧ hi_Inv (j + 1) σ) (fun _ _ => False))) := by
  have hI0 := hI
  obtain ⟨_, S, N, M, h1, h2, h3, h4, h5, h6, h7, h8, h9, h10, h11, h12, h13⟩ := hI
  have hM := h1.2.2.2.2.2.2
  have hN : N ≤ 4800 := by have := h2.1; have := h2.2.1; omega
  simp only [mX6_memory, fX6_memory, u_eC, u_eV, u_eF, u_eR, u_eI, u_eL, u_eB, u_eD, u_eM, u_eU, u_aN, u_aC, u_eK, u_eT, u_cLt, u_cLe, u_cGt, u_cGe, u_cEq, u_cNe, u_cAnd, u_cOr, u_cNot, u_zN, u_zS, u_zD, u_zL, u_zI, u_zB, u_zP, u_zF, u_zA, u_zU, u_zC, u_zR, u_zRZ, u_zRC, u_zRV, u_zT, u_zE, u_zK, u_zY, ho_nid, List.getD_cons_zero, List.getD_cons_succ, List.set_cons_zero, List.set_cons_succ, List.cons_append, List.nil_append, List.take_succ_cons, List.take_zero, Int.reduceToNat, Int.toNat_natCast, nN_0, nN_1, nN_2, nN_3, nN_4, nN_5, nN_6, nN_7, nN_8, nN_9, nN_10, nN_11, nN_12, nN_13, nN_14, nN_15, nN_16, nN_17, nN_18, nN_19, nN_20, nN_21, nN_22, nN_23, nN_24, nN_25, nN_26, nN_27, nN_28, nN_29, nN_30, nN_31, nN_32, nN_33, nN_34, nN_35, nN_36, nN_37, nN_38, nN_39, nN_40, nN_41, nN_42, nN_43, nN_44, nN_45, nN_46, nN_47, nN_48, nN_49, nN_50, nN_51, nN_52, nN_53, nN_54, nR_0_0, nR_0_1, nR_0_2, nR_0_3, nR_0_4, nR_0_5, nR_0_6, nR_0_7, nR_0_8, nR_0_9, nR_0_10, nR_1_0, nR_1_1, nR_1_2, nR_1_3, nR_1_4, nR_2_0, nR_2_1, nR_2_2, nR_2_3, nR_2_4, nR_3_0, nR_3_1, nR_4_2, nR_5_2, nR_6_0, nR_6_1, nR_6_2, nR_7_0, nR_30_2, nR_30_3, nR_30_4, nR_30_6, nR_30_7, nR_30_9, nR_30_10, nR_30_11, nR_30_12, nR_30_13, nR_30_14, nR_30_15, nR_30_16, nR_30_18, nR_30_19, nR_30_20, nR_30_21, nR_30_22, nR_30_23, nR_30_24, nR_30_28, nR_30_29, nR_30_31, sp_needMadeTongue]
  obtain ⟨K0, E0, a1, a2, a3, a4, a5⟩ := h11
  obtain ⟨K1, E1, b1, b2, b3, b4, b5⟩ := h12
  have model : ∀ (τ : ho_S) (Q : ho_K), sm pSc σ τ → ((t = 1 → Q (K0 : Int) (ho_up τ 30 0 0)) ∧ (t = 2 → Q (K1 : Int) (ho_up τ 30 0 0)) ∧ (¬ (1 ≤ t ∧ t ≤ 2) → Q 0 (ho_up τ 30 0 1))) → mX7_memory [30, t] τ Q (fun _ _ => False) := by
    intro τ Q sτ hQ
    have e45 : τ 45 = σ 45 := sm_fn sτ 45 (fun _ => rfl)
    simp only [mX7_memory, fX7_memory, u_eC, u_eV, u_eF, u_eR, u_eI, u_eL, u_eB, u_eD, u_eM, u_eU, u_aN, u_aC, u_eK, u_eT, u_cLt, u_cLe, u_cGt, u_cGe, u_cEq, u_cNe, u_cAnd, u_cOr, u_cNot, u_zN, u_zS, u_zD, u_zL, u_zI, u_zB, u_zP, u_zF, u_zA, u_zU, u_zC, u_zR, u_zRZ, u_zRC, u_zRV, u_zT, u_zE, u_zK, u_zY, ho_nid, List.getD_cons_zero, List.getD_cons_succ, List.set_cons_zero, List.set_cons_succ, List.cons_append, List.nil_append, List.take_succ_cons, List.take_zero, Int.reduceToNat, Int.toNat_natCast, nN_0, nN_1, nN_2, nN_3, nN_4, nN_5, nN_6, nN_7, nN_8, nN_9, nN_10, nN_11, nN_12, nN_13, nN_14, nN_15, nN_16, nN_17, nN_18, nN_19, nN_20, nN_21, nN_22, nN_23, nN_24, nN_25, nN_26, nN_27, nN_28, nN_29, nN_30, nN_31, nN_32, nN_33, nN_34, nN_35, nN_36, nN_37, nN_38, nN_39, nN_40, nN_41, nN_42, nN_43, nN_44, nN_45, nN_46, nN_47, nN_48, nN_49, nN_50, nN_51, nN_52, nN_53, nN_54, nR_0_0, nR_0_1, nR_0_2, nR_0_3, nR_0_4, nR_0_5, nR_0_6, nR_0_7, nR_0_8, nR_0_9, nR_0_10, nR_1_0, nR_1_1, nR_1_2, nR_1_3, nR_1_4, nR_2_0, nR_2_1, nR_2_2, nR_2_3, nR_2_4, nR_3_0, nR_3_1, nR_4_2, nR_5_2, nR_6_0, nR_6_1, nR_6_2, nR_7_0, nR_30_2, nR_30_3, nR_30_4, nR_30_6, nR_30_7, nR_30_9, nR_30_10, nR_30_11, nR_30_12, nR_30_13, nR_30_14, nR_30_15, nR_30_16, nR_30_18, nR_30_19, nR_30_20, nR_30_21, nR_30_22, nR_30_23, nR_30_24, nR_30_28, nR_30_29, nR_30_31, sp_in, zlt, zle, zl1, zl2, zl3, z1l, z2l, z3l, z1e, z2e, z3e, z1n, z2n, z3n, z0n, z0e, true_implies, false_implies, and_true, true_and, ho_upE, bI_ne, bI_eq, true_or, or_true]
    simp only [mR_30_2, mR_30_3, mR_30_4, mR_30_6, mR_30_7, mR_30_9, mR_30_10, mR_30_11, mR_30_12, mR_30_13, mR_30_14, mR_30_15, mR_30_16, mR_30_18, mR_30_19, mR_30_20, mR_30_21, mR_30_22, mR_30_23, mR_30_24, mR_30_28, mR_30_29, mR_30_31, mR_0_9, mR_7_0, nN_25, nN_26, nN_27, nN_28, nN_29, nN_30, nN_31, nN_32, nN_33, nN_34, nN_35, nN_36, nN_37, nN_38, nN_39, nN_40, nN_41, nN_42, nN_43, nN_44, nN_45, nN_46, nN_47, nN_48, nN_49, nN_50, nN_51, nN_52, nN_53, nN_54, Int.toNat_natCast, saF, saE, ho_upF, ho_upE, ne_eq, not_false_eq_true, Nat.reduceEqDiff, e45]
    refine ⟨fun z => ?_, hQ.2.2⟩
    have tt : t = 1 ∨ t = 2 := by omega
    rcases tt with rfl | rfl
    · exact ⟨by decide, by
        rw [show (ho_osub 1 1).toNat = 0 by decide, a4.1]
        exact hQ.1 rfl⟩
    · exact ⟨by decide, by
        rw [show (ho_osub 2 1).toNat = 1 by decide, b4.1]
        exact hQ.2.1 rfl⟩
  by_cases z : 1 ≤ t ∧ t < 3
  · rw [if_pos z]
    have tt : t = 1 ∨ t = 2 := by omega
    rcases tt with rfl | rfl
    · simp only [mX6_memoryOf, fX6_memoryOf, mX2_count, fX2_count, u_eC, u_eV, u_eF, u_eR, u_eI, u_eL, u_eB, u_eD, u_eM, u_eU, u_aN, u_aC, u_eK, u_eT, u_cLt, u_cLe, u_cGt, u_cGe, u_cEq, u_cNe, u_cAnd, u_cOr, u_cNot, u_zN, u_zS, u_zD, u_zL, u_zI, u_zB, u_zP, u_zF, u_zA, u_zU, u_zC, u_zR, u_zRZ, u_zRC, u_zRV, u_zT, u_zE, u_zK, u_zY, ho_nid, List.getD_cons_zero, List.getD_cons_succ, List.set_cons_zero, List.set_cons_succ, List.cons_append, List.nil_append, List.take_succ_cons, List.take_zero, Int.reduceToNat, Int.toNat_natCast, nN_0, nN_1, nN_2, nN_3, nN_4, nN_5, nN_6, nN_7, nN_8, nN_9, nN_10, nN_11, nN_12, nN_13, nN_14, nN_15, nN_16, nN_17, nN_18, nN_19, nN_20, nN_21, nN_22, nN_23, nN_24, nN_25, nN_26, nN_27, nN_28, nN_29, nN_30, nN_31, nN_32, nN_33, nN_34, nN_35, nN_36, nN_37, nN_38, nN_39, nN_40, nN_41, nN_42, nN_43, nN_44, nN_45, nN_46, nN_47, nN_48, nN_49, nN_50, nN_51, nN_52, nN_53, nN_54, nR_0_0, nR_0_1, nR_0_2, nR_0_3, nR_0_4, nR_0_5, nR_0_6, nR_0_7, nR_0_8, nR_0_9, nR_0_10, nR_1_0, nR_1_1, nR_1_2, nR_1_3, nR_1_4, nR_2_0, nR_2_1, nR_2_2, nR_2_3, nR_2_4, nR_3_0, nR_3_1, nR_4_2, nR_5_2, nR_6_0, nR_6_1, nR_6_2, nR_7_0, nR_30_2, nR_30_3, nR_30_4, nR_30_6, nR_30_7, nR_30_9, nR_30_10, nR_30_11, nR_30_12, nR_30_13, nR_30_14, nR_30_15, nR_30_16, nR_30_18, nR_30_19, nR_30_20, nR_30_21, nR_30_22, nR_30_23, nR_30_24, nR_30_28, nR_30_29, nR_30_31]
      refine ⟨fun _ => ?_, fun y => absurd rfl y⟩
      rw [show σ (ho_R 0 3) 3 = (K0 : Int) from a3.2.2.1]
      exact tau (fun τ sτ τ54 eτ => model τ _ sτ ⟨fun _ => ⟨ho_upE, τ54, Inv_sc hj hI0 (sm_up sτ rfl)⟩, fun y => by omega, fun y => by omega⟩)
    · simp only [mX6_memoryOf, fX6_memoryOf, mX2_count, fX2_count, u_eC, u_eV, u_eF, u_eR, u_eI, u_eL, u_eB, u_eD, u_eM, u_eU, u_aN, u_aC, u_eK, u_eT, u_cLt, u_cLe, u_cGt, u_cGe, u_cEq, u_cNe, u_cAnd, u_cOr, u_cNot, u_zN, u_zS, u_zD, u_zL, u_zI, u_zB, u_zP, u_zF, u_zA, u_zU, u_zC, u_zR, u_zRZ, u_zRC, u_zRV, u_zT, u_zE, u_zK, u_zY, ho_nid, List.getD_cons_zero, List.getD_cons_succ, List.set_cons_zero, List.set_cons_succ, List.cons_append, List.nil_append, List.take_succ_cons, List.take_zero, Int.reduceToNat, Int.toNat_natCast, nN_0, nN_1, nN_2, nN_3, nN_4, nN_5, nN_6, nN_7, nN_8, nN_9, nN_10, nN_11, nN_12, nN_13, nN_14, nN_15, nN_16, nN_17, nN_18, nN_19, nN_20, nN_21, nN_22, nN_23, nN_24, nN_25, nN_26, nN_27, nN_28, nN_29, nN_30, nN_31, nN_32, nN_33, nN_34, nN_35, nN_36, nN_37, nN_38, nN_39, nN_40, nN_41, nN_42, nN_43, nN_44, nN_45, nN_46, nN_47, nN_48, nN_49, nN_50, nN_51, nN_52, nN_53, nN_54, nR_0_0, nR_0_1, nR_0_2, nR_0_3, nR_0_4, nR_0_5, nR_0_6, nR_0_7, nR_0_8, nR_0_9, nR_0_10, nR_1_0, nR_1_1, nR_1_2, nR_1_3, nR_1_4, nR_2_0, nR_2_1, nR_2_2, nR_2_3, nR_2_4, nR_3_0, nR_3_1, nR_4_2, nR_5_2, nR_6_0, nR_6_1, nR_6_2, nR_7_0, nR_30_2, nR_30_3, nR_30_4, nR_30_6, nR_30_7, nR_30_9, nR_30_10, nR_30_11, nR_30_12, nR_30_13, nR_30_14, nR_30_15, nR_30_16, nR_30_18, nR_30_19, nR_30_20, nR_30_21, nR_30_22, nR_30_23, nR_30_24, nR_30_28, nR_30_29, nR_30_31]
      refine ⟨fun y => by omega, fun _ => ?_⟩
      rw [show σ (ho_R 0 4) 3 = (K1 : Int) from b3.2.2.1]
      exact tau (fun τ sτ τ54 eτ => model τ _ sτ ⟨fun y => by omega, fun _ => ⟨ho_upE, τ54, Inv_sc hj hI0 (sm_up sτ rfl)⟩, fun y => by omega⟩)
  · rw [if_neg z]
    exact ⟨trivial, model σ _ sm_rf ⟨fun y => by omega, fun y => by omega, fun _ => ⟨ho_upE, Inv_sc hj hI0 (sm_up sm_rf rfl)⟩⟩⟩

theorem op_inOrder {j : Nat} {σ : ho_S} {p : Int} (hj : j < 512) (hI : hi_Inv j σ) : mX6_inOrder [0, p] σ (fun a σ => mX7_inOrder [30, p] (ho_up σ 54 0 a) (fun b σ => σ 30 0 = 0 ∧ σ 54 0 = b ∧ hi_Inv (j + 1) σ) (fun _ _ => False)) (fun ec σ => (ec = 0 ∧ mX7_inOrder [30, p] σ (fun _ σ => σ 30 0 = 1 ∧ hi_Inv (j + 1) σ) (fun _ _ => False))) := by
  have hI0 := hI
  obtain ⟨_, S, N, M, h1, h2, h3, h4, h5, h6, h7, h8, h9, h10, h11, h12, h13⟩ := hI
  have hM := h1.2.2.2.2.2.2
  have hN : N ≤ 4800 := by have := h2.1; have := h2.2.1; omega
  simp only [mX6_inOrder, fX6_inOrder, u_eC, u_eV, u_eF, u_eR, u_eI, u_eL, u_eB, u_eD, u_eM, u_eU, u_aN, u_aC, u_eK, u_eT, u_cLt, u_cLe, u_cGt, u_cGe, u_cEq, u_cNe, u_cAnd, u_cOr, u_cNot, u_zN, u_zS, u_zD, u_zL, u_zI, u_zB, u_zP, u_zF, u_zA, u_zU, u_zC, u_zR, u_zRZ, u_zRC, u_zRV, u_zT, u_zE, u_zK, u_zY, ho_nid, List.getD_cons_zero, List.getD_cons_succ, List.set_cons_zero, List.set_cons_succ, List.cons_append, List.nil_append, List.take_succ_cons, List.take_zero, Int.reduceToNat, Int.toNat_natCast, nN_0, nN_1, nN_2, nN_3, nN_4, nN_5, nN_6, nN_7, nN_8, nN_9, nN_10, nN_11, nN_12, nN_13, nN_14, nN_15, nN_16, nN_17, nN_18, nN_19, nN_20, nN_21, nN_22, nN_23, nN_24, nN_25, nN_26, nN_27, nN_28, nN_29, nN_30, nN_31, nN_32, nN_33, nN_34, nN_35, nN_36, nN_37, nN_38, nN_39, nN_40, nN_41, nN_42, nN_43, nN_44, nN_45, nN_46, nN_47, nN_48, nN_49, nN_50, nN_51, nN_52, nN_53, nN_54, nR_0_0, nR_0_1, nR_0_2, nR_0_3, nR_0_4, nR_0_5, nR_0_6, nR_0_7, nR_0_8, nR_0_9, nR_0_10, nR_1_0, nR_1_1, nR_1_2, nR_1_3, nR_1_4, nR_2_0, nR_2_1, nR_2_2, nR_2_3, nR_2_4, nR_3_0, nR_3_1, nR_4_2, nR_5_2, nR_6_0, nR_6_1, nR_6_2, nR_7_0, nR_30_2, nR_30_3, nR_30_4, nR_30_6, nR_30_7, nR_30_9, nR_30_10, nR_30_11, nR_30_12, nR_30_13, nR_30_14, nR_30_15, nR_30_16, nR_30_18, nR_30_19, nR_30_20, nR_30_21, nR_30_22, nR_30_23, nR_30_24, nR_30_28, nR_30_29, nR_30_31]
  have model : ∀ (τ : ho_S) (Q : ho_K), sm pSc σ τ → ((0 ≤ p → Q (cap (σ 37) M p M) (ho_up τ 30 0 0)) ∧ (p < 0 → Q 0 (ho_up τ 30 0 1))) → mX7_inOrder [30, p] τ Q (fun _ _ => False) := by
    intro τ Q sτ hQ
    have m := mGS h1 sτ
    simp only [mX7_inOrder, fX7_inOrder, u_eC, u_eV, u_eF, u_eR, u_eI, u_eL, u_eB, u_eD, u_eM, u_eU, u_aN, u_aC, u_eK, u_eT, u_cLt, u_cLe, u_cGt, u_cGe, u_cEq, u_cNe, u_cAnd, u_cOr, u_cNot, u_zN, u_zS, u_zD, u_zL, u_zI, u_zB, u_zP, u_zF, u_zA, u_zU, u_zC, u_zR, u_zRZ, u_zRC, u_zRV, u_zT, u_zE, u_zK, u_zY, ho_nid, List.getD_cons_zero, List.getD_cons_succ, List.set_cons_zero, List.set_cons_succ, List.cons_append, List.nil_append, List.take_succ_cons, List.take_zero, Int.reduceToNat, Int.toNat_natCast, nN_0, nN_1, nN_2, nN_3, nN_4, nN_5, nN_6, nN_7, nN_8, nN_9, nN_10, nN_11, nN_12, nN_13, nN_14, nN_15, nN_16, nN_17, nN_18, nN_19, nN_20, nN_21, nN_22, nN_23, nN_24, nN_25, nN_26, nN_27, nN_28, nN_29, nN_30, nN_31, nN_32, nN_33, nN_34, nN_35, nN_36, nN_37, nN_38, nN_39, nN_40, nN_41, nN_42, nN_43, nN_44, nN_45, nN_46, nN_47, nN_48, nN_49, nN_50, nN_51, nN_52, nN_53, nN_54, nR_0_0, nR_0_1, nR_0_2, nR_0_3, nR_0_4, nR_0_5, nR_0_6, nR_0_7, nR_0_8, nR_0_9, nR_0_10, nR_1_0, nR_1_1, nR_1_2, nR_1_3, nR_1_4, nR_2_0, nR_2_1, nR_2_2, nR_2_3, nR_2_4, nR_3_0, nR_3_1, nR_4_2, nR_5_2, nR_6_0, nR_6_1, nR_6_2, nR_7_0, nR_30_2, nR_30_3, nR_30_4, nR_30_6, nR_30_7, nR_30_9, nR_30_10, nR_30_11, nR_30_12, nR_30_13, nR_30_14, nR_30_15, nR_30_16, nR_30_18, nR_30_19, nR_30_20, nR_30_21, nR_30_22, nR_30_23, nR_30_24, nR_30_28, nR_30_29, nR_30_31, zlt, zle, zl1, zl2, zl3, z1l, z2l, z3l, z1e, z2e, z3e, z1n, z2n, z3n, z0n, z0e, true_implies, false_implies, and_true, true_and, ho_upE, bI_ne, bI_eq, true_or, or_true]
    refine ⟨hQ.2, fun z => ?_⟩
    refine sp_captionAt (M := M) m.2.2.2.2.2 hM ?_
    rw [show (ho_up τ 30 0 0) 37 = σ 37 from sm_fn sτ 37 (fun _ => rfl)]
    exact hQ.1 z
  refine ⟨fun z => ⟨trivial, model σ _ sm_rf ⟨fun y => by omega, fun _ => ⟨ho_upE, Inv_sc hj hI0 (sm_up sm_rf rfl)⟩⟩⟩, fun z => ?_⟩
  refine sp_orderCaptions h1.2.2.2.2.1 hM (fun σ1 n s1 hn S1 => ?_)
  have S2 : SRT (σ1 29) n M (σ 37) (fun c => σ 37 c ≠ -1) := SRT_congr S1 (fun c hc => (h6.1 c hc).1) (fun c hc => by
    have := (GT_TM h6).1 c hc
    rw [(h6.1 c hc).2.1]
    constructor <;> intro y <;> omega)
  have cs := cap_srt S2 z
  have s1' : sm pSc σ σ1 := sm_w s1 pSc_or
  refine ⟨fun y => ?_, fun y => ?_⟩
  · obtain ⟨w, rfl⟩ : ∃ w : Nat, p = (w : Int) := ⟨p.toNat, by omega⟩
    refine sp_item.mpr ?_
    rw [gi29 (by omega)]
    have c1 := cs.1 y
    rw [Int.toNat_natCast] at c1
    rw [← c1]
    exact tau (fun τ sτ τ54 eτ => model τ _ (sm_tr s1' sτ) ⟨fun _ => ⟨ho_upE, τ54, Inv_sc hj hI0 (sm_up (sm_tr s1' sτ) rfl)⟩, fun x => by omega⟩)
  · have c1 := cs.2 y
    rw [← c1]
    exact tau (fun τ sτ τ54 eτ => model τ _ (sm_tr s1' sτ) ⟨fun _ => ⟨ho_upE, τ54, Inv_sc hj hI0 (sm_up (sm_tr s1' sτ) rfl)⟩, fun x => by omega⟩)

def pSL (k j : Nat) : Bool := pSc k j || ((Nat.beq k 0 && (Nat.beq j 12 || Nat.beq j 13)) || (Nat.beq k 30 && (Nat.beq j 25 || Nat.beq j 26)))
theorem pSL_sc : ∀ k j, pSc k j = true → pSL k j = true := fun k j z => by unfold pSL; rw [z]; rfl

theorem op_setLimits {j : Nat} {σ : ho_S} {w v : Int} (hj : j < 512) (hI : hi_Inv j σ) : mX6_setLimits [0, w, v] σ (fun a σ => mX7_setLimits [30, w, v] (ho_up σ 54 0 a) (fun b σ => σ 30 0 = 0 ∧ σ 54 0 = b ∧ hi_Inv (j + 1) σ) (fun _ _ => False)) (fun ec σ => (ec = 0 ∧ mX7_setLimits [30, w, v] σ (fun _ σ => σ 30 0 = 1 ∧ hi_Inv (j + 1) σ) (fun _ _ => False))) := by
  have hI0 := hI
  obtain ⟨_, S, N, M, h1, h2, h3, h4, h5, h6, h7, h8, h9, h10, h11, h12, h13⟩ := hI
  have hM := h1.2.2.2.2.2.2
  have hN : N ≤ 4800 := by have := h2.1; have := h2.2.1; omega
  have w9 := h13
  unfold GW at w9
  have inv : (5 ≤ w ∧ w ≤ 60) → (5 ≤ v ∧ v ≤ 50) → ∀ υ : ho_S, sm pSL σ υ → υ 0 12 = w → υ 30 25 = w → υ 0 13 = v → υ 30 26 = v → hi_Inv (j + 1) υ := by
    intro r1 r2 υ s9 u1 u2 u3 u4
    refine ⟨by omega, S, N, M, GS_sm h1 s9 ⟨rfl, rfl, rfl, rfl, rfl, rfl⟩, GF_sm h2 s9 (fun _ => ⟨rfl, rfl, rfl, rfl⟩), GPc_sm h3 s9 (fun _ => ⟨rfl, rfl, rfl⟩), GPm_sm h4 s9 (fun _ => ⟨rfl, rfl, rfl⟩), GL_sm h5 s9 (fun _ => ⟨rfl, rfl⟩), GT_sm h6 s9 (fun _ => ⟨rfl, rfl, rfl, rfl, rfl, rfl, rfl⟩), GK_sm h7 s9 (fun _ => ⟨rfl, rfl⟩), GX_sm h8 s9 (fun _ => ⟨rfl, rfl, rfl, rfl, rfl, rfl⟩), GB_sm h9 s9 (fun _ => ⟨rfl, rfl⟩) rfl, GN_sm h10 s9 (fun _ => ⟨rfl, rfl⟩), GM_sm h11 s9 (by omega) (by omega) (fun _ => ⟨rfl, rfl, rfl, rfl, rfl, rfl, rfl, rfl, rfl, rfl⟩) rfl, GM_sm h12 s9 (by omega) (by omega) (fun _ => ⟨rfl, rfl, rfl, rfl, rfl, rfl, rfl, rfl, rfl, rfl⟩) rfl, ?_⟩
    unfold GW
    rw [u1, u2, u3, u4]
    omega
  have thr : mX7_setLimits [30, w, v] σ (fun _ σ => σ 30 0 = 1 ∧ hi_Inv (j + 1) σ) (fun _ _ => False) ∨ (5 ≤ w ∧ w ≤ 60) ∧ (5 ≤ v ∧ v ≤ 50) := by
    by_cases z : (5 ≤ w ∧ w ≤ 60) ∧ (5 ≤ v ∧ v ≤ 50)
    · exact Or.inr z
    · refine Or.inl ?_
      simp only [mX7_setLimits, fX7_setLimits, u_eC, u_eV, u_eF, u_eR, u_eI, u_eL, u_eB, u_eD, u_eM, u_eU, u_aN, u_aC, u_eK, u_eT, u_cLt, u_cLe, u_cGt, u_cGe, u_cEq, u_cNe, u_cAnd, u_cOr, u_cNot, u_zN, u_zS, u_zD, u_zL, u_zI, u_zB, u_zP, u_zF, u_zA, u_zU, u_zC, u_zR, u_zRZ, u_zRC, u_zRV, u_zT, u_zE, u_zK, u_zY, ho_nid, List.getD_cons_zero, List.getD_cons_succ, List.set_cons_zero, List.set_cons_succ, List.cons_append, List.nil_append, List.take_succ_cons, List.take_zero, Int.reduceToNat, Int.toNat_natCast, nN_0, nN_1, nN_2, nN_3, nN_4, nN_5, nN_6, nN_7, nN_8, nN_9, nN_10, nN_11, nN_12, nN_13, nN_14, nN_15, nN_16, nN_17, nN_18, nN_19, nN_20, nN_21, nN_22, nN_23, nN_24, nN_25, nN_26, nN_27, nN_28, nN_29, nN_30, nN_31, nN_32, nN_33, nN_34, nN_35, nN_36, nN_37, nN_38, nN_39, nN_40, nN_41, nN_42, nN_43, nN_44, nN_45, nN_46, nN_47, nN_48, nN_49, nN_50, nN_51, nN_52, nN_53, nN_54, nR_0_0, nR_0_1, nR_0_2, nR_0_3, nR_0_4, nR_0_5, nR_0_6, nR_0_7, nR_0_8, nR_0_9, nR_0_10, nR_1_0, nR_1_1, nR_1_2, nR_1_3, nR_1_4, nR_2_0, nR_2_1, nR_2_2, nR_2_3, nR_2_4, nR_3_0, nR_3_1, nR_4_2, nR_5_2, nR_6_0, nR_6_1, nR_6_2, nR_7_0, nR_30_2, nR_30_3, nR_30_4, nR_30_6, nR_30_7, nR_30_9, nR_30_10, nR_30_11, nR_30_12, nR_30_13, nR_30_14, nR_30_15, nR_30_16, nR_30_18, nR_30_19, nR_30_20, nR_30_21, nR_30_22, nR_30_23, nR_30_24, nR_30_28, nR_30_29, nR_30_31, sp_in, zlt, zle, zl1, zl2, zl3, z1l, z2l, z3l, z1e, z2e, z3e, z1n, z2n, z3n, z0n, z0e, true_implies, false_implies, and_true, true_and, ho_upE, bI_ne, bI_eq, true_or, or_true]
      exact ⟨fun a => ⟨fun b => absurd ⟨a, b⟩ z, fun _ => Inv_sc hj hI0 (sm_up sm_rf rfl)⟩, fun _ => Inv_sc hj hI0 (sm_up sm_rf rfl)⟩
  simp only [mX6_setLimits, fX6_setLimits, u_eC, u_eV, u_eF, u_eR, u_eI, u_eL, u_eB, u_eD, u_eM, u_eU, u_aN, u_aC, u_eK, u_eT, u_cLt, u_cLe, u_cGt, u_cGe, u_cEq, u_cNe, u_cAnd, u_cOr, u_cNot, u_zN, u_zS, u_zD, u_zL, u_zI, u_zB, u_zP, u_zF, u_zA, u_zU, u_zC, u_zR, u_zRZ, u_zRC, u_zRV, u_zT, u_zE, u_zK, u_zY, ho_nid, List.getD_cons_zero, List.getD_cons_succ, List.set_cons_zero, List.set_cons_succ, List.cons_append, List.nil_append, List.take_succ_cons, List.take_zero, Int.reduceToNat, Int.toNat_natCast, nN_0, nN_1, nN_2, nN_3, nN_4, nN_5, nN_6, nN_7, nN_8, nN_9, nN_10, nN_11, nN_12, nN_13, nN_14, nN_15, nN_16, nN_17, nN_18, nN_19, nN_20, nN_21, nN_22, nN_23, nN_24, nN_25, nN_26, nN_27, nN_28, nN_29, nN_30, nN_31, nN_32, nN_33, nN_34, nN_35, nN_36, nN_37, nN_38, nN_39, nN_40, nN_41, nN_42, nN_43, nN_44, nN_45, nN_46, nN_47, nN_48, nN_49, nN_50, nN_51, nN_52, nN_53, nN_54, nR_0_0, nR_0_1, nR_0_2, nR_0_3, nR_0_4, nR_0_5, nR_0_6, nR_0_7, nR_0_8, nR_0_9, nR_0_10, nR_1_0, nR_1_1, nR_1_2, nR_1_3, nR_1_4, nR_2_0, nR_2_1, nR_2_2, nR_2_3, nR_2_4, nR_3_0, nR_3_1, nR_4_2, nR_5_2, nR_6_0, nR_6_1, nR_6_2, nR_7_0, nR_30_2, nR_30_3, nR_30_4, nR_30_6, nR_30_7, nR_30_9, nR_30_10, nR_30_11, nR_30_12, nR_30_13, nR_30_14, nR_30_15, nR_30_16, nR_30_18, nR_30_19, nR_30_20, nR_30_21, nR_30_22, nR_30_23, nR_30_24, nR_30_28, nR_30_29, nR_30_31]
  have bad : ¬ ((5 ≤ w ∧ w ≤ 60) ∧ (5 ≤ v ∧ v ≤ 50)) → True ∧ mX7_setLimits [30, w, v] σ (fun _ σ => σ 30 0 = 1 ∧ hi_Inv (j + 1) σ) (fun _ _ => False) := fun z => ⟨trivial, thr.resolve_right z⟩
  refine ⟨fun z => bad (by omega), fun z1 => ⟨fun z => bad (by omega), fun z2 => ⟨fun z => bad (by omega), fun z3 => ⟨fun z => bad (by omega), fun z4 => ?_⟩⟩⟩⟩
  refine tau (fun τ sτ τ54 eτ => ?_)
  simp only [mX7_setLimits, fX7_setLimits, u_eC, u_eV, u_eF, u_eR, u_eI, u_eL, u_eB, u_eD, u_eM, u_eU, u_aN, u_aC, u_eK, u_eT, u_cLt, u_cLe, u_cGt, u_cGe, u_cEq, u_cNe, u_cAnd, u_cOr, u_cNot, u_zN, u_zS, u_zD, u_zL, u_zI, u_zB, u_zP, u_zF, u_zA, u_zU, u_zC, u_zR, u_zRZ, u_zRC, u_zRV, u_zT, u_zE, u_zK, u_zY, ho_nid, List.getD_cons_zero, List.getD_cons_succ, List.set_cons_zero, List.set_cons_succ, List.cons_append, List.nil_append, List.take_succ_cons, List.take_zero, Int.reduceToNat, Int.toNat_natCast, nN_0, nN_1, nN_2, nN_3, nN_4, nN_5, nN_6, nN_7, nN_8, nN_9, nN_10, nN_11, nN_12, nN_13, nN_14, nN_15, nN_16, nN_17, nN_18, nN_19, nN_20, nN_21, nN_22, nN_23, nN_24, nN_25, nN_26, nN_27, nN_28, nN_29, nN_30, nN_31, nN_32, nN_33, nN_34, nN_35, nN_36, nN_37, nN_38, nN_39, nN_40, nN_41, nN_42, nN_43, nN_44, nN_45, nN_46, nN_47, nN_48, nN_49, nN_50, nN_51, nN_52, nN_53, nN_54, nR_0_0, nR_0_1, nR_0_2, nR_0_3, nR_0_4, nR_0_5, nR_0_6, nR_0_7, nR_0_8, nR_0_9, nR_0_10, nR_1_0, nR_1_1, nR_1_2, nR_1_3, nR_1_4, nR_2_0, nR_2_1, nR_2_2, nR_2_3, nR_2_4, nR_3_0, nR_3_1, nR_4_2, nR_5_2, nR_6_0, nR_6_1, nR_6_2, nR_7_0, nR_30_2, nR_30_3, nR_30_4, nR_30_6, nR_30_7, nR_30_9, nR_30_10, nR_30_11, nR_30_12, nR_30_13, nR_30_14, nR_30_15, nR_30_16, nR_30_18, nR_30_19, nR_30_20, nR_30_21, nR_30_22, nR_30_23, nR_30_24, nR_30_28, nR_30_29, nR_30_31, sp_in, zlt, zle, zl1, zl2, zl3, z1l, z2l, z3l, z1e, z2e, z3e, z1n, z2n, z3n, z0n, z0e, true_implies, false_implies, and_true, true_and, ho_upE, bI_ne, bI_eq, true_or, or_true]
  have g1 : 5 ≤ w ∧ w ≤ 60 := by omega
  have g2 : 5 ≤ v ∧ v ≤ 50 := by omega
  refine ⟨fun _ => ⟨fun _ => ?_, fun z => absurd g2 z⟩, fun z => absurd g1 z⟩
  have e25 : τ 30 25 = σ 30 25 := sτ 30 25 rfl
  have e12 : τ 0 12 = w := sτ 0 12 rfl
  have e13 : τ 0 13 = v := sτ 0 13 rfl
  have s9 : sm pSL σ (ho_up (ho_up (ho_up τ 30 0 0) 30 25 w) 30 26 v) := sm_up (sm_up (sm_up (sm_tr (sm_up (sm_up sm_rf rfl) rfl) (sm_w sτ pSL_sc)) rfl) rfl) rfl
  refine ⟨rfl, ?_, inv g1 g2 _ s9 e12 rfl e13 rfl⟩
  show τ 54 0 = τ 30 25
  rw [τ54, e25]
  exact w9.1
