def pLa (k j : Nat) : Bool := pSc k j || (Nat.beq k 11 || (Nat.beq k 33 || (Nat.beq k 13 || (Nat.beq k 14 || (Nat.beq k 37 || (Nat.beq k 38 || (Nat.beq k 27 || (Nat.beq k 44 || ((Nat.beq k 0 && Nat.beq j 11) || (Nat.beq k 30 && Nat.beq j 8))))))))))
theorem pLa_sc : ∀ k j, pSc k j = true → pLa k j = true := fun k j z => by unfold pLa; rw [z]; rfl
def ldM (F : Nat → Int) (a n : Nat) (m : Nat) : Prop := ∃ i, a ≤ i ∧ i < a + n ∧ (F i).toNat = m
theorem Inv_la {σ υ : ho_S} {j S N M M' c a n : Nat} {s l : Int} (hj : j < 512) (h1 : GS S N M σ) (h2 : GF S N σ) (h3 : GPc S N σ) (h4 : GPm S N σ) (h5 : GL S M σ) (h6 : GT N M σ) (h7 : GK σ) (h8 : GX σ) (h9 : GB j σ) (h11 : GM j 0 4 20 48 σ) (h12 : GM j 1 5 21 64 σ) (h13 : GW σ)
    (hM : (M' = M ∧ c < M) ∨ (M' = M + 1 ∧ c = M)) (hM16 : M' ≤ 16) (hn : 0 < n) (han : a + n ≤ N) (us : sm pLa σ υ) (e11 : υ 0 11 = (M' : Int)) (e8 : υ 30 8 = (M' : Int)) (hv : ∀ m, m < 4800 → (ldM (σ 34) a n m → υ 33 m = orb (clr (σ 33 m) c) c) ∧ (¬ ldM (σ 34) a n m → υ 33 m = clr (σ 33 m) c)) (hk : ∀ m, m < 4800 → υ 11 (m + m / 400) = υ 33 m)
    (e13 : ∀ i, υ 13 i = if i = c then (a : Int) else σ 13 i) (e14 : ∀ i, υ 14 i = if i = c then (n : Int) else σ 14 i) (e37 : ∀ i, υ 37 i = if i = c then s else σ 37 i) (e38 : ∀ i, υ 38 i = if i = c then l else σ 38 i) (hLR : LR (fun i => bit (υ 33 (σ 34 i).toNat) c = true) N s l) (hN : GN υ) : hi_Inv (j + 1) υ := by
  have hc16 : c < 16 := by omega
  have bt : ∀ m, m < 4800 → (∀ d, d < 16 → d ≠ c → bit (υ 33 m) d = bit (σ 33 m) d) ∧ (bit (υ 33 m) c = true ↔ ldM (σ 34) a n m) ∧ ∃ x : Nat, υ 33 m = x ∧ x < 65536 := fun m hm => by
    have ok := h5.1 m hm
    have cok := clr_ok ok hc16
    by_cases z : ldM (σ 34) a n m
    · rw [(hv m hm).1 z]
      refine ⟨fun d hd hdc => ?_, ?_, orb_ok cok hc16⟩
      · rw [orb_bit cok hc16, clr_bit ok hc16 hd, decide_eq_true (show c ≠ d from fun w => hdc w.symm), decide_eq_false (fun w => hdc w.symm)]; simp
      · rw [orb_bit cok hc16]; simp [z]
    · rw [(hv m hm).2 z]
      refine ⟨fun d hd hdc => ?_, ?_, cok⟩
      · rw [clr_bit ok hc16 hd, decide_eq_true (show c ≠ d from fun w => hdc w.symm)]; simp
      · rw [clr_bit ok hc16 hc16]; simp [z]
  have fi : ∀ i, i < N → (σ 34 i).toNat < 4800 := fun i hi => by have := h2.2.2.2.1 i hi; omega
  have u34 : υ 34 = σ 34 := sm_fn us 34 (fun _ => rfl)
  have new : LR (fun i => bit (υ 33 (σ 34 i).toNat) c = true) N a n := LR_laid hn han (fun i hi => by
    rw [(bt _ (fi i hi)).2.1]
    constructor
    · rintro ⟨k, k1, k2, k3⟩
      have f1 := h2.2.2.2.1 i hi
      have f2 := h2.2.2.2.1 k (by omega)
      have := h2.2.2.2.2.2 k i (by omega) hi (by omega)
      omega
    · intro w; exact ⟨i, w.1, w.2, rfl⟩)
  have sl := LR_uniq hLR new
  refine ⟨by omega, S, N, M', ⟨(us 1 5 rfl).trans h1.1, (us 30 1 rfl).trans h1.2.1, (us 1 6 rfl).trans h1.2.2.1, (us 30 5 rfl).trans h1.2.2.2.1, e11, e8, hM16⟩, GF_sm h2 us (fun _ => ⟨rfl, rfl, rfl, rfl⟩), GPc_sm h3 us (fun _ => ⟨rfl, rfl, rfl⟩), GPm_sm h4 us (fun _ => ⟨rfl, rfl, rfl⟩), ⟨fun m hm => (bt m hm).2.2, hk, fun m m1 m2 => ?_, fun m hm d d1 d2 => ?_⟩, ⟨fun d hd => ?_, fun d d1 d2 => ?_, ?_⟩, GK_sm h7 us (fun _ => ⟨rfl, rfl⟩), GX_sm h8 us (fun _ => ⟨rfl, rfl, rfl, rfl, rfl, rfl⟩), GB_sm h9 us (fun _ => ⟨rfl, rfl⟩) rfl, hN, GM_sm h11 us (by omega) (by omega) (fun _ => ⟨rfl, rfl, rfl, rfl, rfl, rfl, rfl, rfl, rfl, rfl⟩) rfl, GM_sm h12 us (by omega) (by omega) (fun _ => ⟨rfl, rfl, rfl, rfl, rfl, rfl, rfl, rfl, rfl, rfl⟩) rfl, GW_sm h13 us ⟨rfl, rfl, rfl, rfl⟩⟩
  · have nl : ¬ ldM (σ 34) a n m := by
      rintro ⟨k, k1, k2, k3⟩
      have f2 := h2.2.2.2.2.1 k (by omega)
      have f1 := h2.2.2.2.1 k (by omega)
      omega
    rw [(hv m m2).2 nl]
    have z := h5.2.2.1 m m1 m2
    rw [clr_id (h5.1 m m2) hc16 (by rw [z]; exact bit_zero c)]
    exact z
  · rw [(bt m hm).1 d d2 (by omega)]
    exact h5.2.2.2 m hm d (by omega) d2
  · rw [e13, e14, e37, e38, u34]
    by_cases z : d = c
    · rw [if_pos z, if_pos z, if_pos z, if_pos z, z]
      exact ⟨sl.1.symm, sl.2.symm, hLR⟩
    · rw [if_neg z, if_neg z, if_neg z, if_neg z]
      have g := h6.1 d (by omega)
      refine ⟨g.1, g.2.1, LR_congr (fun i hi => ?_) g.2.2⟩
      rw [(bt _ (fi i hi)).1 d (by omega) z]
  · rw [e13, e14, if_neg (by omega), if_neg (by omega)]
    exact h6.2.1 d (by omega) d2
  · rw [sm_fn us 15 (fun _ => rfl)]; exact h6.2.2
theorem key_uniq {m m' : Nat} (h : m + m / 400 = m' + m' / 400) : m = m' := by omega
theorem sp_add_thr {j S N M : Nat} {a n : Int} {σ : ho_S} (hj : j < 512) (hI0 : hi_Inv j σ) (h1 : GS S N M σ) (hN : N ≤ 4800) : (¬ (0 ≤ a ∧ a < (N : Int)) → mX7_add [30, a, n] σ (fun _ σ => σ 30 0 = 1 ∧ hi_Inv (j + 1) σ) (fun _ _ => False)) ∧ ((0 ≤ a ∧ a < (N : Int)) → ¬ (1 ≤ n ∧ n ≤ 250) → mX7_add [30, a, n] σ (fun _ σ => σ 30 0 = 2 ∧ hi_Inv (j + 1) σ) (fun _ _ => False)) ∧ ((0 ≤ a ∧ a < (N : Int)) → (1 ≤ n ∧ n ≤ 250) → ¬ n ≤ (N : Int) - a → mX7_add [30, a, n] σ (fun _ σ => σ 30 0 = 1 ∧ hi_Inv (j + 1) σ) (fun _ _ => False)) ∧ ((0 ≤ a ∧ a < (N : Int)) → (1 ≤ n ∧ n ≤ 250) → n ≤ (N : Int) - a → M = 16 → mX7_add [30, a, n] σ (fun _ σ => σ 30 0 = 3 ∧ hi_Inv (j + 1) σ) (fun _ _ => False)) := by
  have e5 := h1.2.2.2.1
  have e8 := h1.2.2.2.2.2.1
  refine ⟨fun c => ?_, fun c d => ?_, fun c d e => ?_, fun c d e f => ?_⟩
  · simp only [mX7_add, fX7_add, u_eC, u_eV, u_eF, u_eR, u_eI, u_eL, u_eB, u_eD, u_eM, u_eU, u_aN, u_aC, u_eK, u_eT, u_cLt, u_cLe, u_cGt, u_cGe, u_cEq, u_cNe, u_cAnd, u_cOr, u_cNot, u_zN, u_zS, u_zD, u_zL, u_zI, u_zB, u_zP, u_zF, u_zA, u_zU, u_zC, u_zR, u_zRZ, u_zRC, u_zRV, u_zT, u_zE, u_zK, u_zY, ho_nid, List.getD_cons_zero, List.getD_cons_succ, List.set_cons_zero, List.set_cons_succ, List.cons_append, List.nil_append, List.take_succ_cons, List.take_zero, Int.reduceToNat, Int.toNat_natCast, nN_0, nN_1, nN_2, nN_3, nN_4, nN_5, nN_6, nN_7, nN_8, nN_9, nN_10, nN_11, nN_12, nN_13, nN_14, nN_15, nN_16, nN_17, nN_18, nN_19, nN_20, nN_21, nN_22, nN_23, nN_24, nN_25, nN_26, nN_27, nN_28, nN_29, nN_30, nN_31, nN_32, nN_33, nN_34, nN_35, nN_36, nN_37, nN_38, nN_39, nN_40, nN_41, nN_42, nN_43, nN_44, nN_45, nN_46, nN_47, nN_48, nN_49, nN_50, nN_51, nN_52, nN_53, nN_54, nR_0_0, nR_0_1, nR_0_2, nR_0_3, nR_0_4, nR_0_5, nR_0_6, nR_0_7, nR_0_8, nR_0_9, nR_0_10, nR_1_0, nR_1_1, nR_1_2, nR_1_3, nR_1_4, nR_2_0, nR_2_1, nR_2_2, nR_2_3, nR_2_4, nR_3_0, nR_3_1, nR_4_2, nR_5_2, nR_6_0, nR_6_1, nR_6_2, nR_7_0, nR_30_2, nR_30_3, nR_30_4, nR_30_6, nR_30_7, nR_30_9, nR_30_10, nR_30_11, nR_30_12, nR_30_13, nR_30_14, nR_30_15, nR_30_16, nR_30_18, nR_30_19, nR_30_20, nR_30_21, nR_30_22, nR_30_23, nR_30_24, nR_30_28, nR_30_29, nR_30_31, sp_in, sp_isPlace (σ := σ) (show 0 ≤ σ 30 5 by rw [e5]; omega) (show σ 30 5 ≤ 4800 by rw [e5]; omega), zlt, zle, zl1, zl2, zl3, z1l, z2l, z3l, z1e, z2e, z3e, z1n, z2n, z3n, z0n, z0e, true_implies, false_implies, and_true, true_and, ho_upE, bI_ne, bI_eq, true_or, or_true, e5]
    exact ⟨fun w => absurd w c, fun _ => Inv_sc hj hI0 (sm_up sm_rf rfl)⟩
  · simp only [mX7_add, fX7_add, u_eC, u_eV, u_eF, u_eR, u_eI, u_eL, u_eB, u_eD, u_eM, u_eU, u_aN, u_aC, u_eK, u_eT, u_cLt, u_cLe, u_cGt, u_cGe, u_cEq, u_cNe, u_cAnd, u_cOr, u_cNot, u_zN, u_zS, u_zD, u_zL, u_zI, u_zB, u_zP, u_zF, u_zA, u_zU, u_zC, u_zR, u_zRZ, u_zRC, u_zRV, u_zT, u_zE, u_zK, u_zY, ho_nid, List.getD_cons_zero, List.getD_cons_succ, List.set_cons_zero, List.set_cons_succ, List.cons_append, List.nil_append, List.take_succ_cons, List.take_zero, Int.reduceToNat, Int.toNat_natCast, nN_0, nN_1, nN_2, nN_3, nN_4, nN_5, nN_6, nN_7, nN_8, nN_9, nN_10, nN_11, nN_12, nN_13, nN_14, nN_15, nN_16, nN_17, nN_18, nN_19, nN_20, nN_21, nN_22, nN_23, nN_24, nN_25, nN_26, nN_27, nN_28, nN_29, nN_30, nN_31, nN_32, nN_33, nN_34, nN_35, nN_36, nN_37, nN_38, nN_39, nN_40, nN_41, nN_42, nN_43, nN_44, nN_45, nN_46, nN_47, nN_48, nN_49, nN_50, nN_51, nN_52, nN_53, nN_54, nR_0_0, nR_0_1, nR_0_2, nR_0_3, nR_0_4, nR_0_5, nR_0_6, nR_0_7, nR_0_8, nR_0_9, nR_0_10, nR_1_0, nR_1_1, nR_1_2, nR_1_3, nR_1_4, nR_2_0, nR_2_1, nR_2_2, nR_2_3, nR_2_4, nR_3_0, nR_3_1, nR_4_2, nR_5_2, nR_6_0, nR_6_1, nR_6_2, nR_7_0, nR_30_2, nR_30_3, nR_30_4, nR_30_6, nR_30_7, nR_30_9, nR_30_10, nR_30_11, nR_30_12, nR_30_13, nR_30_14, nR_30_15, nR_30_16, nR_30_18, nR_30_19, nR_30_20, nR_30_21, nR_30_22, nR_30_23, nR_30_24, nR_30_28, nR_30_29, nR_30_31, sp_in, sp_isPlace (σ := σ) (show 0 ≤ σ 30 5 by rw [e5]; omega) (show σ 30 5 ≤ 4800 by rw [e5]; omega), zlt, zle, zl1, zl2, zl3, z1l, z2l, z3l, z1e, z2e, z3e, z1n, z2n, z3n, z0n, z0e, true_implies, false_implies, and_true, true_and, ho_upE, bI_ne, bI_eq, true_or, or_true, e5]
    exact ⟨fun _ => ⟨fun w => absurd w d, fun _ => Inv_sc hj hI0 (sm_up sm_rf rfl)⟩, fun w => absurd c w⟩
  · simp only [mX7_add, fX7_add, u_eC, u_eV, u_eF, u_eR, u_eI, u_eL, u_eB, u_eD, u_eM, u_eU, u_aN, u_aC, u_eK, u_eT, u_cLt, u_cLe, u_cGt, u_cGe, u_cEq, u_cNe, u_cAnd, u_cOr, u_cNot, u_zN, u_zS, u_zD, u_zL, u_zI, u_zB, u_zP, u_zF, u_zA, u_zU, u_zC, u_zR, u_zRZ, u_zRC, u_zRV, u_zT, u_zE, u_zK, u_zY, ho_nid, List.getD_cons_zero, List.getD_cons_succ, List.set_cons_zero, List.set_cons_succ, List.cons_append, List.nil_append, List.take_succ_cons, List.take_zero, Int.reduceToNat, Int.toNat_natCast, nN_0, nN_1, nN_2, nN_3, nN_4, nN_5, nN_6, nN_7, nN_8, nN_9, nN_10, nN_11, nN_12, nN_13, nN_14, nN_15, nN_16, nN_17, nN_18, nN_19, nN_20, nN_21, nN_22, nN_23, nN_24, nN_25, nN_26, nN_27, nN_28, nN_29, nN_30, nN_31, nN_32, nN_33, nN_34, nN_35, nN_36, nN_37, nN_38, nN_39, nN_40, nN_41, nN_42, nN_43, nN_44, nN_45, nN_46, nN_47, nN_48, nN_49, nN_50, nN_51, nN_52, nN_53, nN_54, nR_0_0, nR_0_1, nR_0_2, nR_0_3, nR_0_4, nR_0_5, nR_0_6, nR_0_7, nR_0_8, nR_0_9, nR_0_10, nR_1_0, nR_1_1, nR_1_2, nR_1_3, nR_1_4, nR_2_0, nR_2_1, nR_2_2, nR_2_3, nR_2_4, nR_3_0, nR_3_1, nR_4_2, nR_5_2, nR_6_0, nR_6_1, nR_6_2, nR_7_0, nR_30_2, nR_30_3, nR_30_4, nR_30_6, nR_30_7, nR_30_9, nR_30_10, nR_30_11, nR_30_12, nR_30_13, nR_30_14, nR_30_15, nR_30_16, nR_30_18, nR_30_19, nR_30_20, nR_30_21, nR_30_22, nR_30_23, nR_30_24, nR_30_28, nR_30_29, nR_30_31, sp_in, sp_isPlace (σ := σ) (show 0 ≤ σ 30 5 by rw [e5]; omega) (show σ 30 5 ≤ 4800 by rw [e5]; omega), sp_areFrames (σ := σ) (show 0 ≤ σ 30 5 by rw [e5]; omega) (show σ 30 5 ≤ 4800 by rw [e5]; omega) c.1 (show a ≤ σ 30 5 by rw [e5]; omega), zlt, zle, zl1, zl2, zl3, z1l, z2l, z3l, z1e, z2e, z3e, z1n, z2n, z3n, z0n, z0e, true_implies, false_implies, and_true, true_and, ho_upE, bI_ne, bI_eq, true_or, or_true, e5]
    exact ⟨fun _ => ⟨fun _ => ⟨fun w => absurd w e, fun _ => Inv_sc hj hI0 (sm_up sm_rf rfl)⟩, fun w => absurd d w⟩, fun w => absurd c w⟩
  · simp only [mX7_add, fX7_add, u_eC, u_eV, u_eF, u_eR, u_eI, u_eL, u_eB, u_eD, u_eM, u_eU, u_aN, u_aC, u_eK, u_eT, u_cLt, u_cLe, u_cGt, u_cGe, u_cEq, u_cNe, u_cAnd, u_cOr, u_cNot, u_zN, u_zS, u_zD, u_zL, u_zI, u_zB, u_zP, u_zF, u_zA, u_zU, u_zC, u_zR, u_zRZ, u_zRC, u_zRV, u_zT, u_zE, u_zK, u_zY, ho_nid, List.getD_cons_zero, List.getD_cons_succ, List.set_cons_zero, List.set_cons_succ, List.cons_append, List.nil_append, List.take_succ_cons, List.take_zero, Int.reduceToNat, Int.toNat_natCast, nN_0, nN_1, nN_2, nN_3, nN_4, nN_5, nN_6, nN_7, nN_8, nN_9, nN_10, nN_11, nN_12, nN_13, nN_14, nN_15, nN_16, nN_17, nN_18, nN_19, nN_20, nN_21, nN_22, nN_23, nN_24, nN_25, nN_26, nN_27, nN_28, nN_29, nN_30, nN_31, nN_32, nN_33, nN_34, nN_35, nN_36, nN_37, nN_38, nN_39, nN_40, nN_41, nN_42, nN_43, nN_44, nN_45, nN_46, nN_47, nN_48, nN_49, nN_50, nN_51, nN_52, nN_53, nN_54, nR_0_0, nR_0_1, nR_0_2, nR_0_3, nR_0_4, nR_0_5, nR_0_6, nR_0_7, nR_0_8, nR_0_9, nR_0_10, nR_1_0, nR_1_1, nR_1_2, nR_1_3, nR_1_4, nR_2_0, nR_2_1, nR_2_2, nR_2_3, nR_2_4, nR_3_0, nR_3_1, nR_4_2, nR_5_2, nR_6_0, nR_6_1, nR_6_2, nR_7_0, nR_30_2, nR_30_3, nR_30_4, nR_30_6, nR_30_7, nR_30_9, nR_30_10, nR_30_11, nR_30_12, nR_30_13, nR_30_14, nR_30_15, nR_30_16, nR_30_18, nR_30_19, nR_30_20, nR_30_21, nR_30_22, nR_30_23, nR_30_24, nR_30_28, nR_30_29, nR_30_31, sp_in, sp_isPlace (σ := σ) (show 0 ≤ σ 30 5 by rw [e5]; omega) (show σ 30 5 ≤ 4800 by rw [e5]; omega), sp_areFrames (σ := σ) (show 0 ≤ σ 30 5 by rw [e5]; omega) (show σ 30 5 ≤ 4800 by rw [e5]; omega) c.1 (show a ≤ σ 30 5 by rw [e5]; omega), zlt, zle, zl1, zl2, zl3, z1l, z2l, z3l, z1e, z2e, z3e, z1n, z2n, z3n, z0n, z0e, true_implies, false_implies, and_true, true_and, ho_upE, bI_ne, bI_eq, true_or, or_true, e5, e8]
    exact ⟨fun _ => ⟨fun _ => ⟨fun _ => ⟨fun _ => Inv_sc hj hI0 (sm_up sm_rf rfl), fun w => absurd (show (M : Int) = 16 by omega) w⟩, fun w => absurd e w⟩, fun w => absurd d w⟩, fun w => absurd c w⟩
/-- what class and model make of the marks, when laid -/
theorem marks_eq {S N M c a n : Nat} {σ υ : ho_S} {x11 g : Nat → Int} {Lm : Nat → Int} (h1 : GS S N M σ) (h2 : GF S N σ) (h5 : GL S M σ) (hc : c < 16) (han : a + n ≤ N) (hx : ∀ m, m < 4800 → x11 (m + m / 400) = clr (σ 33 m) c)
    (g1 : ∀ i : Nat, i < n → g (σ 8 (a + i)).toNat = orb (x11 (σ 8 (a + i)).toNat) c) (g2 : ∀ k, (∀ i : Nat, i < n → (σ 8 (a + i)).toNat ≠ k) → g k = x11 k) (l1 : ∀ i : Nat, (a : Int) ≤ i → (i : Int) < (a : Int) + (n : Int) → Lm (σ 34 i).toNat = orb (clr (σ 33 (σ 34 i).toNat) c) c) (l2 : ∀ k : Nat, (∀ i : Nat, (a : Int) ≤ i → (i : Int) < (a : Int) + (n : Int) → (σ 34 i).toNat ≠ k) → Lm k = if (k : Int) < 400 * (S : Int) then clr (σ 33 k) c else σ 33 k) :
    (∀ m, m < 4800 → (ldM (σ 34) a n m → Lm m = orb (clr (σ 33 m) c) c) ∧ (¬ ldM (σ 34) a n m → Lm m = clr (σ 33 m) c)) ∧ ∀ m, m < 4800 → g (m + m / 400) = Lm m := by
  have A : ∀ m, m < 4800 → (ldM (σ 34) a n m → Lm m = orb (clr (σ 33 m) c) c) ∧ (¬ ldM (σ 34) a n m → Lm m = clr (σ 33 m) c) := fun m hm => by
    refine ⟨?_, fun z => ?_⟩
    · rintro ⟨i, i1, i2, rfl⟩
      exact l1 i (by omega) (by omega)
    · rw [l2 m (fun i i1 i2 w => z ⟨i, by omega, by omega, w⟩)]
      by_cases q : (m : Int) < 400 * (S : Int)
      · rw [if_pos q]
      · rw [if_neg q]
        have z0 := h5.2.2.1 m (by omega) hm
        exact (clr_id (h5.1 m hm) hc (by rw [z0]; exact bit_zero c)).symm
  refine ⟨A, fun m hm => ?_⟩
  by_cases z : ldM (σ 34) a n m
  · rw [(A m hm).1 z]
    obtain ⟨i, i1, i2, i3⟩ := z
    have f := h2.2.2.2.1 i (by omega)
    have kk : (σ 8 i).toNat = m + m / 400 := by omega
    have := g1 (i - a) (by omega)
    rw [show a + (i - a) = i by omega, kk, hx m hm] at this
    exact this
  · rw [(A m hm).2 z, g2 (m + m / 400) (fun i hi w => z ⟨a + i, by omega, by omega, ?_⟩), hx m hm]
    have f := h2.2.2.2.1 (a + i) (by omega)
    exact key_uniq (by omega)

theorem op_add {j : Nat} {σ : ho_S} {f n : Int} (hj : j < 512) (hI : hi_Inv j σ) : mX6_add [0, f, n] σ (fun a σ => mX7_add [30, f, n] (ho_up σ 54 0 a) (fun b σ => σ 30 0 = 0 ∧ σ 54 0 = b ∧ hi_Inv (j + 1) σ) (fun _ _ => False)) (fun ec σ => (ec = 2 ∧ mX7_add [30, f, n] σ (fun _ σ => σ 30 0 = 1 ∧ hi_Inv (j + 1) σ) (fun _ _ => False)) ∨ (ec = 0 ∧ mX7_add [30, f, n] σ (fun _ σ => σ 30 0 = 2 ∧ hi_Inv (j + 1) σ) (fun _ _ => False)) ∨ (ec = 1 ∧ mX7_add [30, f, n] σ (fun _ σ => σ 30 0 = 3 ∧ hi_Inv (j + 1) σ) (fun _ _ => False))) := by
  have hI0 := hI
  obtain ⟨_, S, N, M, h1, h2, h3, h4, h5, h6, h7, h8, h9, h10, h11, h12, h13⟩ := hI
  have hM := h1.2.2.2.2.2.2
  have hN : N ≤ 4800 := by have := h2.1; have := h2.2.1; omega
  have thr := sp_add_thr (a := f) (n := n) hj hI0 h1 hN
  have e5 := h1.2.2.2.1
  have e8 := h1.2.2.2.2.2.1
  simp only [mX6_add, fX6_add, u_eC, u_eV, u_eF, u_eR, u_eI, u_eL, u_eB, u_eD, u_eM, u_eU, u_aN, u_aC, u_eK, u_eT, u_cLt, u_cLe, u_cGt, u_cGe, u_cEq, u_cNe, u_cAnd, u_cOr, u_cNot, u_zN, u_zS, u_zD, u_zL, u_zI, u_zB, u_zP, u_zF, u_zA, u_zU, u_zC, u_zR, u_zRZ, u_zRC, u_zRV, u_zT, u_zE, u_zK, u_zY, ho_nid, List.getD_cons_zero, List.getD_cons_succ, List.set_cons_zero, List.set_cons_succ, List.cons_append, List.nil_append, List.take_succ_cons, List.take_zero, Int.reduceToNat, Int.toNat_natCast, nN_0, nN_1, nN_2, nN_3, nN_4, nN_5, nN_6, nN_7, nN_8, nN_9, nN_10, nN_11, nN_12, nN_13, nN_14, nN_15, nN_16, nN_17, nN_18, nN_19, nN_20, nN_21, nN_22, nN_23, nN_24, nN_25, nN_26, nN_27, nN_28, nN_29, nN_30, nN_31, nN_32, nN_33, nN_34, nN_35, nN_36, nN_37, nN_38, nN_39, nN_40, nN_41, nN_42, nN_43, nN_44, nN_45, nN_46, nN_47, nN_48, nN_49, nN_50, nN_51, nN_52, nN_53, nN_54, nR_0_0, nR_0_1, nR_0_2, nR_0_3, nR_0_4, nR_0_5, nR_0_6, nR_0_7, nR_0_8, nR_0_9, nR_0_10, nR_1_0, nR_1_1, nR_1_2, nR_1_3, nR_1_4, nR_2_0, nR_2_1, nR_2_2, nR_2_3, nR_2_4, nR_3_0, nR_3_1, nR_4_2, nR_5_2, nR_6_0, nR_6_1, nR_6_2, nR_7_0, nR_30_2, nR_30_3, nR_30_4, nR_30_6, nR_30_7, nR_30_9, nR_30_10, nR_30_11, nR_30_12, nR_30_13, nR_30_14, nR_30_15, nR_30_16, nR_30_18, nR_30_19, nR_30_20, nR_30_21, nR_30_22, nR_30_23, nR_30_24, nR_30_28, nR_30_29, nR_30_31, sp_needRun (σ := σ) (show 0 ≤ σ 1 6 by rw [h1.2.2.1]; omega) (show σ 1 6 ≤ 4800 by rw [h1.2.2.1]; omega), h1.2.2.1, h1.2.2.2.2.1]
  by_cases c1 : 0 ≤ f ∧ f < (N : Int)
  · rw [if_neg (fun z => z c1)]
    by_cases c2 : n ≤ 250 ∧ (N : Int) - f < n
    · rw [if_pos c2]
      exact Or.inl ⟨by trivial, thr.2.2.1 c1 (by omega) (by omega)⟩
    · rw [if_neg c2]
      by_cases c3 : 1 ≤ n ∧ n ≤ 250
      · rw [if_pos c3]
        have c4 : n ≤ (N : Int) - f := by omega
        refine ⟨fun z => Or.inr (Or.inr ⟨by trivial, thr.2.2.2 c1 c3 c4 (by omega)⟩), fun z => ?_⟩
        obtain ⟨a, rfl⟩ : ∃ q : Nat, f = (q : Int) := ⟨f.toNat, by omega⟩
        obtain ⟨n, rfl⟩ : ∃ q : Nat, n = (q : Int) := ⟨n.toNat, by omega⟩
        have hM15 : M < 16 := by omega
        rw [oinc (by omega)]
        have keys : ∀ i : Nat, i < N → 0 ≤ σ 8 i ∧ σ 8 i < 4812 := fun i hi => by have := h2.2.2.2.1 i hi; omega
        refine sp_mark (by omega) (by omega) (by show (a : Int) + n ≤ σ 1 6; rw [h1.2.2.1]; omega) (by show σ 1 6 ≤ 4800; rw [h1.2.2.1]; omega) (fun i hi => keys i (by rw [show (ho_up σ 0 11 ((M + 1 : Nat) : Int)) 1 6 = σ 1 6 from rfl, h1.2.2.1] at hi; omega)) (fun i k hi hk w => ?_) (fun g g1 g2 => ?_)
        · have w' : (σ 8 (a + i)).toNat = (σ 8 (a + k)).toNat := w
          have f1 := h2.2.2.2.1 (a + i) (by omega)
          have f2 := h2.2.2.2.1 (a + k) (by omega)
          have := h2.2.2.2.2.2 (a + i) (a + k) (by omega) (by omega) (by omega)
          omega
        refine sp_tset.mpr ?_
        rw [si13 hM15, si14 hM15]
        refine tau (fun τ sτ τ54 eτ => ?_)
        have q : ∀ k, k ≠ 54 → k ≠ 0 → k ≠ 11 → k ≠ 13 → k ≠ 14 → τ k = σ k := fun k a1 a2 a3 a4 a5 => by rw [eτ k a1, ho_upF a5, ho_upF a4, saF a3, ho_upF a2]
        have q30 := q 30 (by omega) (by omega) (by omega) (by omega) (by omega)
        have q33 := q 33 (by omega) (by omega) (by omega) (by omega) (by omega)
        have q34 := q 34 (by omega) (by omega) (by omega) (by omega) (by omega)
        have q37 := q 37 (by omega) (by omega) (by omega) (by omega) (by omega)
        have q38 := q 38 (by omega) (by omega) (by omega) (by omega) (by omega)
        have q44 := q 44 (by omega) (by omega) (by omega) (by omega) (by omega)
        have q27 := q 27 (by omega) (by omega) (by omega) (by omega) (by omega)
        have p13 : ∀ i, τ 13 i = if i = M then (a : Int) else σ 13 i := fun i => by
          rw [eτ 13 (by omega), ho_upF (show (13 : Nat) ≠ 14 by decide), ho_upA, saF (show (13 : Nat) ≠ 11 by decide), ho_upF (show (13 : Nat) ≠ 0 by decide)]
        have p14 : ∀ i, τ 14 i = if i = M then (n : Int) else σ 14 i := fun i => by
          rw [eτ 14 (by omega), ho_upA, ho_upF (show (14 : Nat) ≠ 13 by decide), saF (show (14 : Nat) ≠ 11 by decide), ho_upF (show (14 : Nat) ≠ 0 by decide)]
        have p11 : τ 11 = g := by rw [eτ 11 (by omega), ho_upF (show (11 : Nat) ≠ 14 by decide), ho_upF (show (11 : Nat) ≠ 13 by decide), saE]
        have p0 : τ 0 11 = ((M + 1 : Nat) : Int) := by rw [eτ 0 (by omega), ho_upF (show (0 : Nat) ≠ 14 by decide), ho_upF (show (0 : Nat) ≠ 13 by decide), saF (show (0 : Nat) ≠ 11 by decide), ho_upE]
        have sA : sm pLa σ τ := sm_tr (sm_up (sm_up (sm_sa (sm_up sm_rf rfl) (fun _ => rfl)) rfl) rfl) (sm_w sτ pLa_sc)
        have m5 : τ 30 5 = (N : Int) := by rw [q30]; exact e5
        have m8 : τ 30 8 = (M : Int) := by rw [q30]; exact e8
        have m1 : τ 30 1 = (S : Int) := by rw [q30]; exact h1.2.1
        simp only [mX7_add, fX7_add, u_eC, u_eV, u_eF, u_eR, u_eI, u_eL, u_eB, u_eD, u_eM, u_eU, u_aN, u_aC, u_eK, u_eT, u_cLt, u_cLe, u_cGt, u_cGe, u_cEq, u_cNe, u_cAnd, u_cOr, u_cNot, u_zN, u_zS, u_zD, u_zL, u_zI, u_zB, u_zP, u_zF, u_zA, u_zU, u_zC, u_zR, u_zRZ, u_zRC, u_zRV, u_zT, u_zE, u_zK, u_zY, ho_nid, List.getD_cons_zero, List.getD_cons_succ, List.set_cons_zero, List.set_cons_succ, List.cons_append, List.nil_append, List.take_succ_cons, List.take_zero, Int.reduceToNat, Int.toNat_natCast, nN_0, nN_1, nN_2, nN_3, nN_4, nN_5, nN_6, nN_7, nN_8, nN_9, nN_10, nN_11, nN_12, nN_13, nN_14, nN_15, nN_16, nN_17, nN_18, nN_19, nN_20, nN_21, nN_22, nN_23, nN_24, nN_25, nN_26, nN_27, nN_28, nN_29, nN_30, nN_31, nN_32, nN_33, nN_34, nN_35, nN_36, nN_37, nN_38, nN_39, nN_40, nN_41, nN_42, nN_43, nN_44, nN_45, nN_46, nN_47, nN_48, nN_49, nN_50, nN_51, nN_52, nN_53, nN_54, nR_0_0, nR_0_1, nR_0_2, nR_0_3, nR_0_4, nR_0_5, nR_0_6, nR_0_7, nR_0_8, nR_0_9, nR_0_10, nR_1_0, nR_1_1, nR_1_2, nR_1_3, nR_1_4, nR_2_0, nR_2_1, nR_2_2, nR_2_3, nR_2_4, nR_3_0, nR_3_1, nR_4_2, nR_5_2, nR_6_0, nR_6_1, nR_6_2, nR_7_0, nR_30_2, nR_30_3, nR_30_4, nR_30_6, nR_30_7, nR_30_9, nR_30_10, nR_30_11, nR_30_12, nR_30_13, nR_30_14, nR_30_15, nR_30_16, nR_30_18, nR_30_19, nR_30_20, nR_30_21, nR_30_22, nR_30_23, nR_30_24, nR_30_28, nR_30_29, nR_30_31, sp_in, sp_isPlace (σ := τ) (show 0 ≤ τ 30 5 by rw [m5]; omega) (show τ 30 5 ≤ 4800 by rw [m5]; omega), sp_areFrames (σ := τ) (show 0 ≤ τ 30 5 by rw [m5]; omega) (show τ 30 5 ≤ 4800 by rw [m5]; omega) (show 0 ≤ (a : Int) by omega) (show (a : Int) ≤ τ 30 5 by rw [m5]; omega), zlt, zle, zl1, zl2, zl3, z1l, z2l, z3l, z1e, z2e, z3e, z1n, z2n, z3n, z0n, z0e, true_implies, false_implies, and_true, true_and, ho_upE, bI_ne, bI_eq, true_or, or_true, m5, m8]
        refine ⟨fun _ => ⟨fun _ => ⟨fun _ => ⟨fun w => absurd w (by omega), fun _ => ?_⟩, fun w => absurd c4 w⟩, fun w => absurd c3 w⟩, fun w => absurd c1 w⟩
        have v8 : (ho_up τ 30 0 0) 30 8 = (M : Int) := m8
        rw [v8, oinc (by omega), odec (by omega)]
        obtain ⟨τ2, hτ2⟩ : ∃ τ2, τ2 = ho_up (ho_up τ 30 0 0) 30 8 ((M + 1 : Nat) : Int) := ⟨_, rfl⟩
        have r5 : τ2 30 5 = (N : Int) := by rw [hτ2, ho_upJ (show (5 : Nat) ≠ 8 by decide), ho_upJ (show (5 : Nat) ≠ 0 by decide)]; exact m5
        have r1 : τ2 30 1 = (S : Int) := by rw [hτ2, ho_upJ (show (1 : Nat) ≠ 8 by decide), ho_upJ (show (1 : Nat) ≠ 0 by decide)]; exact m1
        have r0 : τ2 30 0 = 0 := by rw [hτ2, ho_upJ (show (0 : Nat) ≠ 8 by decide), ho_upE]
        have r8 : τ2 30 8 = ((M + 1 : Nat) : Int) := by rw [hτ2, ho_upE]
        have rk : ∀ k, k ≠ 30 → τ2 k = τ k := fun k hk => by rw [hτ2, ho_upF hk, ho_upF hk]
        have sB : sm pLa σ τ2 := by rw [hτ2]; exact sm_up (sm_up sA rfl) rfl
        rw [← hτ2]
        clear hτ2
        have r33 : τ2 33 = σ 33 := (rk 33 (by omega)).trans q33
        have r34 : τ2 34 = σ 34 := (rk 34 (by omega)).trans q34
        refine sp_lays (n := N) hM15 (by rw [r1]; omega) (by rw [r1]; have := h2.1; omega) r5 hN (by omega) (by omega) (by omega) (fun i hi => by rw [r34, r1]; have u := h2.2.2.2.1 i hi; have w := h2.2.2.2.2.1 i hi; omega) (fun i k hi hk w => by
          rw [r34] at w
          have u := h2.2.2.2.1 i hi
          have u' := h2.2.2.2.1 k hk
          exact h2.2.2.2.2.2 i k hi hk (by omega)) (by rw [r33]; exact h5.1) (fun Lm s l l1 l2 l3 => ?_)
        rw [r33, r34, r1] at l2
        rw [r33, r34] at l1
        rw [r34] at l3
        have nc9 : ∀ m, m < 4800 → clr (σ 33 m) M = σ 33 m := fun m hm => clr_id (h5.1 m hm) hM15 (h5.2.2.2 m hm M (Nat.le_refl _) hM15)
        have me := marks_eq (x11 := σ 11) (g := g) (Lm := Lm) (υ := σ) h1 h2 h5 hM15 (show a + n ≤ N by omega) (fun m hm => by rw [h5.2.1 m hm, nc9 m hm]) (fun i hi => g1 i (by omega)) (fun k hk => g2 k (fun i hi => hk i (by omega))) l1 l2
        obtain ⟨υ, hυ⟩ : ∃ υ, υ = ho_up (ho_up (sa τ2 33 Lm) 37 M s) 38 M l := ⟨_, rfl⟩
        have uk : ∀ k, k ≠ 33 → k ≠ 37 → k ≠ 38 → υ k = τ2 k := fun k a1 a2 a3 => by rw [hυ, ho_upF a3, ho_upF a2, saF a1]
        have u33 : υ 33 = Lm := by rw [hυ, ho_upF (show (33 : Nat) ≠ 38 by decide), ho_upF (show (33 : Nat) ≠ 37 by decide), saE]
        have u37 : ∀ i, υ 37 i = if i = M then s else σ 37 i := fun i => by rw [hυ, ho_upF (show (37 : Nat) ≠ 38 by decide), ho_upA, saF (show (37 : Nat) ≠ 33 by decide), rk 37 (by omega), q37]
        have u38 : ∀ i, υ 38 i = if i = M then l else σ 38 i := fun i => by rw [hυ, ho_upA, ho_upF (show (38 : Nat) ≠ 37 by decide), saF (show (38 : Nat) ≠ 33 by decide), rk 38 (by omega), q38]
        have us : sm pLa σ υ := by rw [hυ]; exact sm_up (sm_up (sm_sa sB (fun _ => rfl)) rfl) rfl
        rw [← hυ]
        have e30 := uk 30 (by omega) (by omega) (by omega)
        rw [e30, r8, odec (by omega)]
        refine ⟨r0, ?_, Inv_la (s := s) (l := l) hj h1 h2 h3 h4 h5 h6 h7 h8 h9 h11 h12 h13 (Or.inr ⟨rfl, rfl⟩) (by omega) (show 0 < n by omega) (show a + n ≤ N by omega) us ?_ (by rw [e30]; exact r8) (by rw [u33]; exact me.1) (fun m hm => ?_) (fun i => ?_) (fun i => ?_) u37 u38 (by rw [u33]; exact l3) ?_⟩
        · rw [uk 54 (by omega) (by omega) (by omega), rk 54 (by omega)]; exact τ54
        · rw [uk 0 (by omega) (by omega) (by omega), rk 0 (by omega)]; exact p0
        · rw [uk 11 (by omega) (by omega) (by omega), rk 11 (by omega), p11, u33]; exact me.2 m hm
        · rw [uk 13 (by omega) (by omega) (by omega), rk 13 (by omega)]; exact p13 i
        · rw [uk 14 (by omega) (by omega) (by omega), rk 14 (by omega)]; exact p14 i
        · unfold GN
          rw [uk 27 (by omega) (by omega) (by omega), rk 27 (by omega), uk 44 (by omega) (by omega) (by omega), rk 44 (by omega), q27, q44]
          exact h10
      · rw [if_neg c3]
        exact Or.inr (Or.inl ⟨by trivial, thr.2.1 c1 c3⟩)
  · rw [if_pos c1]
    exact Or.inl ⟨by trivial, thr.1 c1⟩
