theorem pFi_39 : ∀ k j, pFi k j = false → (Nat.beq k 39 || Nat.beq k 40) = false := fun k j z => by
  unfold pFi pSc at z
  cases a : Nat.beq k 39 <;> cases b : Nat.beq k 40 <;> simp [a, b] at z ⊢
theorem pFi_34 : ∀ k j, pFi k j = false → (Nat.beq k 34 || (Nat.beq k 35 || (Nat.beq k 30 && Nat.beq j 5))) = false := fun k j z => by
  unfold pFi pSc at z
  cases a : Nat.beq k 34 <;> cases b : Nat.beq k 35 <;> cases c : Nat.beq k 30 <;> cases d : Nat.beq j 5 <;> simp [a, b, c, d] at z ⊢
theorem pFi_32 : ∀ k j, pFi k j = false → (Nat.beq k 32 || (Nat.beq k 37 || Nat.beq k 38)) = false := fun k j z => by
  unfold pFi at z
  cases a : Nat.beq k 32 <;> cases b : Nat.beq k 37 <;> cases d : Nat.beq k 38 <;> simp [a, b, d] at z ⊢
theorem t_none {S M N' c : Nat} {F' : Nat → Int} {σ : ho_S} {s l : Int} (h5 : GL S M σ) (hF : ∀ i, i < N' → 0 ≤ F' i ∧ F' i < 4800) (c1 : M ≤ c) (c2 : c < 16) (t : LR (fun i => bit (σ 33 (F' i).toNat) c = true) N' s l) : s = -1 ∧ l = 0 := by
  rcases t with ⟨a, b, _⟩ | ⟨a, b, d, e, _⟩
  · omega
  · have q : bit (σ 33 (F' s.toNat).toNat) c = true := e s.toNat (by omega) (by omega)
    have f := hF s.toNat (by omega)
    rw [h5.2.2.2 _ (by omega) c c1 c2] at q
    cases q

theorem op_move {j : Nat} {σ : ho_S} {f n g : Int} (hj : j < 512) (hI : hi_Inv j σ) : mX6_move [0, f, n, g] σ (fun a σ => mX7_move [30, f, n, g] (ho_up σ 54 0 a) (fun b σ => σ 30 0 = 0 ∧ σ 54 0 = b ∧ hi_Inv (j + 1) σ) (fun _ _ => False)) (fun ec σ => (ec = 2 ∧ mX7_move [30, f, n, g] σ (fun _ σ => σ 30 0 = 1 ∧ hi_Inv (j + 1) σ) (fun _ _ => False)) ∨ (ec = 0 ∧ mX7_move [30, f, n, g] σ (fun _ σ => σ 30 0 = 2 ∧ hi_Inv (j + 1) σ) (fun _ _ => False))) := by
  have hI0 := hI
  obtain ⟨_, S, N, M, h1, h2, h3, h4, h5, h6, h7, h8, h9, h10, h11, h12, h13⟩ := hI
  have hM := h1.2.2.2.2.2.2
  have hN : N ≤ 4800 := by have := h2.1; have := h2.2.1; omega
  have e5 := h1.2.2.2.1
  have thr1 : ¬ (0 ≤ f ∧ f < (N : Int)) → mX7_move [30, f, n, g] σ (fun _ σ => σ 30 0 = 1 ∧ hi_Inv (j + 1) σ) (fun _ _ => False) := by
    intro c
    simp only [mX7_move, fX7_move, u_eC, u_eV, u_eF, u_eR, u_eI, u_eL, u_eB, u_eD, u_eM, u_eU, u_aN, u_aC, u_eK, u_eT, u_cLt, u_cLe, u_cGt, u_cGe, u_cEq, u_cNe, u_cAnd, u_cOr, u_cNot, u_zN, u_zS, u_zD, u_zL, u_zI, u_zB, u_zP, u_zF, u_zA, u_zU, u_zC, u_zR, u_zRZ, u_zRC, u_zRV, u_zT, u_zE, u_zK, u_zY, ho_nid, List.getD_cons_zero, List.getD_cons_succ, List.set_cons_zero, List.set_cons_succ, List.cons_append, List.nil_append, List.take_succ_cons, List.take_zero, Int.reduceToNat, Int.toNat_natCast, nN_0, nN_1, nN_2, nN_3, nN_4, nN_5, nN_6, nN_7, nN_8, nN_9, nN_10, nN_11, nN_12, nN_13, nN_14, nN_15, nN_16, nN_17, nN_18, nN_19, nN_20, nN_21, nN_22, nN_23, nN_24, nN_25, nN_26, nN_27, nN_28, nN_29, nN_30, nN_31, nN_32, nN_33, nN_34, nN_35, nN_36, nN_37, nN_38, nN_39, nN_40, nN_41, nN_42, nN_43, nN_44, nN_45, nN_46, nN_47, nN_48, nN_49, nN_50, nN_51, nN_52, nN_53, nN_54, nR_0_0, nR_0_1, nR_0_2, nR_0_3, nR_0_4, nR_0_5, nR_0_6, nR_0_7, nR_0_8, nR_0_9, nR_0_10, nR_1_0, nR_1_1, nR_1_2, nR_1_3, nR_1_4, nR_2_0, nR_2_1, nR_2_2, nR_2_3, nR_2_4, nR_3_0, nR_3_1, nR_4_2, nR_5_2, nR_6_0, nR_6_1, nR_6_2, nR_7_0, nR_30_2, nR_30_3, nR_30_4, nR_30_6, nR_30_7, nR_30_9, nR_30_10, nR_30_11, nR_30_12, nR_30_13, nR_30_14, nR_30_15, nR_30_16, nR_30_18, nR_30_19, nR_30_20, nR_30_21, nR_30_22, nR_30_23, nR_30_24, nR_30_28, nR_30_29, nR_30_31, sp_isPlace (σ := σ) (show 0 ≤ σ 30 5 by rw [e5]; omega) (show σ 30 5 ≤ 4800 by rw [e5]; omega), zlt, zle, zl1, zl2, zl3, z1l, z2l, z3l, z1e, z2e, z3e, z1n, z2n, z3n, z0n, z0e, true_implies, false_implies, and_true, true_and, ho_upE, bI_ne, bI_eq, true_or, or_true, e5]
    exact ⟨fun w => absurd w c, fun _ => Inv_sc hj hI0 (sm_up sm_rf rfl)⟩
  have thr2 : (0 ≤ f ∧ f < (N : Int)) → n < 1 → mX7_move [30, f, n, g] σ (fun _ σ => σ 30 0 = 2 ∧ hi_Inv (j + 1) σ) (fun _ _ => False) := by
    intro c d
    simp only [mX7_move, fX7_move, u_eC, u_eV, u_eF, u_eR, u_eI, u_eL, u_eB, u_eD, u_eM, u_eU, u_aN, u_aC, u_eK, u_eT, u_cLt, u_cLe, u_cGt, u_cGe, u_cEq, u_cNe, u_cAnd, u_cOr, u_cNot, u_zN, u_zS, u_zD, u_zL, u_zI, u_zB, u_zP, u_zF, u_zA, u_zU, u_zC, u_zR, u_zRZ, u_zRC, u_zRV, u_zT, u_zE, u_zK, u_zY, ho_nid, List.getD_cons_zero, List.getD_cons_succ, List.set_cons_zero, List.set_cons_succ, List.cons_append, List.nil_append, List.take_succ_cons, List.take_zero, Int.reduceToNat, Int.toNat_natCast, nN_0, nN_1, nN_2, nN_3, nN_4, nN_5, nN_6, nN_7, nN_8, nN_9, nN_10, nN_11, nN_12, nN_13, nN_14, nN_15, nN_16, nN_17, nN_18, nN_19, nN_20, nN_21, nN_22, nN_23, nN_24, nN_25, nN_26, nN_27, nN_28, nN_29, nN_30, nN_31, nN_32, nN_33, nN_34, nN_35, nN_36, nN_37, nN_38, nN_39, nN_40, nN_41, nN_42, nN_43, nN_44, nN_45, nN_46, nN_47, nN_48, nN_49, nN_50, nN_51, nN_52, nN_53, nN_54, nR_0_0, nR_0_1, nR_0_2, nR_0_3, nR_0_4, nR_0_5, nR_0_6, nR_0_7, nR_0_8, nR_0_9, nR_0_10, nR_1_0, nR_1_1, nR_1_2, nR_1_3, nR_1_4, nR_2_0, nR_2_1, nR_2_2, nR_2_3, nR_2_4, nR_3_0, nR_3_1, nR_4_2, nR_5_2, nR_6_0, nR_6_1, nR_6_2, nR_7_0, nR_30_2, nR_30_3, nR_30_4, nR_30_6, nR_30_7, nR_30_9, nR_30_10, nR_30_11, nR_30_12, nR_30_13, nR_30_14, nR_30_15, nR_30_16, nR_30_18, nR_30_19, nR_30_20, nR_30_21, nR_30_22, nR_30_23, nR_30_24, nR_30_28, nR_30_29, nR_30_31, sp_isPlace (σ := σ) (show 0 ≤ σ 30 5 by rw [e5]; omega) (show σ 30 5 ≤ 4800 by rw [e5]; omega), zlt, zle, zl1, zl2, zl3, z1l, z2l, z3l, z1e, z2e, z3e, z1n, z2n, z3n, z0n, z0e, true_implies, false_implies, and_true, true_and, ho_upE, bI_ne, bI_eq, true_or, or_true, e5]
    exact ⟨fun _ => ⟨fun _ => Inv_sc hj hI0 (sm_up sm_rf rfl), fun w => by omega⟩, fun w => absurd c w⟩
  have thr3 : (0 ≤ f ∧ f < (N : Int)) → 1 ≤ n → ¬ (n ≤ (N : Int) - f ∧ 0 ≤ g ∧ g ≤ (N : Int) - n) → mX7_move [30, f, n, g] σ (fun _ σ => σ 30 0 = 1 ∧ hi_Inv (j + 1) σ) (fun _ _ => False) := by
    intro c d e
    simp only [mX7_move, fX7_move, u_eC, u_eV, u_eF, u_eR, u_eI, u_eL, u_eB, u_eD, u_eM, u_eU, u_aN, u_aC, u_eK, u_eT, u_cLt, u_cLe, u_cGt, u_cGe, u_cEq, u_cNe, u_cAnd, u_cOr, u_cNot, u_zN, u_zS, u_zD, u_zL, u_zI, u_zB, u_zP, u_zF, u_zA, u_zU, u_zC, u_zR, u_zRZ, u_zRC, u_zRV, u_zT, u_zE, u_zK, u_zY, ho_nid, List.getD_cons_zero, List.getD_cons_succ, List.set_cons_zero, List.set_cons_succ, List.cons_append, List.nil_append, List.take_succ_cons, List.take_zero, Int.reduceToNat, Int.toNat_natCast, nN_0, nN_1, nN_2, nN_3, nN_4, nN_5, nN_6, nN_7, nN_8, nN_9, nN_10, nN_11, nN_12, nN_13, nN_14, nN_15, nN_16, nN_17, nN_18, nN_19, nN_20, nN_21, nN_22, nN_23, nN_24, nN_25, nN_26, nN_27, nN_28, nN_29, nN_30, nN_31, nN_32, nN_33, nN_34, nN_35, nN_36, nN_37, nN_38, nN_39, nN_40, nN_41, nN_42, nN_43, nN_44, nN_45, nN_46, nN_47, nN_48, nN_49, nN_50, nN_51, nN_52, nN_53, nN_54, nR_0_0, nR_0_1, nR_0_2, nR_0_3, nR_0_4, nR_0_5, nR_0_6, nR_0_7, nR_0_8, nR_0_9, nR_0_10, nR_1_0, nR_1_1, nR_1_2, nR_1_3, nR_1_4, nR_2_0, nR_2_1, nR_2_2, nR_2_3, nR_2_4, nR_3_0, nR_3_1, nR_4_2, nR_5_2, nR_6_0, nR_6_1, nR_6_2, nR_7_0, nR_30_2, nR_30_3, nR_30_4, nR_30_6, nR_30_7, nR_30_9, nR_30_10, nR_30_11, nR_30_12, nR_30_13, nR_30_14, nR_30_15, nR_30_16, nR_30_18, nR_30_19, nR_30_20, nR_30_21, nR_30_22, nR_30_23, nR_30_24, nR_30_28, nR_30_29, nR_30_31, sp_isPlace (σ := σ) (show 0 ≤ σ 30 5 by rw [e5]; omega) (show σ 30 5 ≤ 4800 by rw [e5]; omega), sp_areFrames (σ := σ) (show 0 ≤ σ 30 5 by rw [e5]; omega) (show σ 30 5 ≤ 4800 by rw [e5]; omega) c.1 (show f ≤ σ 30 5 by rw [e5]; omega), sp_in, zlt, zle, zl1, zl2, zl3, z1l, z2l, z3l, z1e, z2e, z3e, z1n, z2n, z3n, z0n, z0e, true_implies, false_implies, and_true, true_and, ho_upE, bI_ne, bI_eq, true_or, or_true, e5]
    refine ⟨fun _ => ⟨fun w => by omega, fun _ => ⟨fun w => ⟨fun w2 => ?_, fun _ => Inv_sc hj hI0 (sm_up sm_rf rfl)⟩, fun _ => Inv_sc hj hI0 (sm_up sm_rf rfl)⟩⟩, fun w => absurd c w⟩
    rw [wsu (by omega) (by omega)] at w2
    exact absurd ⟨w, w2⟩ e
  simp only [mX6_move, fX6_move, u_eC, u_eV, u_eF, u_eR, u_eI, u_eL, u_eB, u_eD, u_eM, u_eU, u_aN, u_aC, u_eK, u_eT, u_cLt, u_cLe, u_cGt, u_cGe, u_cEq, u_cNe, u_cAnd, u_cOr, u_cNot, u_zN, u_zS, u_zD, u_zL, u_zI, u_zB, u_zP, u_zF, u_zA, u_zU, u_zC, u_zR, u_zRZ, u_zRC, u_zRV, u_zT, u_zE, u_zK, u_zY, ho_nid, List.getD_cons_zero, List.getD_cons_succ, List.set_cons_zero, List.set_cons_succ, List.cons_append, List.nil_append, List.take_succ_cons, List.take_zero, Int.reduceToNat, Int.toNat_natCast, nN_0, nN_1, nN_2, nN_3, nN_4, nN_5, nN_6, nN_7, nN_8, nN_9, nN_10, nN_11, nN_12, nN_13, nN_14, nN_15, nN_16, nN_17, nN_18, nN_19, nN_20, nN_21, nN_22, nN_23, nN_24, nN_25, nN_26, nN_27, nN_28, nN_29, nN_30, nN_31, nN_32, nN_33, nN_34, nN_35, nN_36, nN_37, nN_38, nN_39, nN_40, nN_41, nN_42, nN_43, nN_44, nN_45, nN_46, nN_47, nN_48, nN_49, nN_50, nN_51, nN_52, nN_53, nN_54, nR_0_0, nR_0_1, nR_0_2, nR_0_3, nR_0_4, nR_0_5, nR_0_6, nR_0_7, nR_0_8, nR_0_9, nR_0_10, nR_1_0, nR_1_1, nR_1_2, nR_1_3, nR_1_4, nR_2_0, nR_2_1, nR_2_2, nR_2_3, nR_2_4, nR_3_0, nR_3_1, nR_4_2, nR_5_2, nR_6_0, nR_6_1, nR_6_2, nR_7_0, nR_30_2, nR_30_3, nR_30_4, nR_30_6, nR_30_7, nR_30_9, nR_30_10, nR_30_11, nR_30_12, nR_30_13, nR_30_14, nR_30_15, nR_30_16, nR_30_18, nR_30_19, nR_30_20, nR_30_21, nR_30_22, nR_30_23, nR_30_24, nR_30_28, nR_30_29, nR_30_31, sp_needPlace, sp_fsize, sp_needSome, h1.2.2.1]
  by_cases c1 : 0 ≤ f ∧ f < (N : Int)
  · rw [if_pos c1, wsu (by omega) (by omega)]
    refine ⟨fun c2 => ⟨fun w => Or.inl ⟨by trivial, thr3 c1 c2 (by omega)⟩, fun w => ⟨fun x => Or.inl ⟨by trivial, thr3 c1 c2 (by omega)⟩, fun x => ?_⟩⟩, fun z => ?_⟩
    · rw [wsu (by omega) (by omega)]
      refine ⟨fun y => Or.inl ⟨by trivial, thr3 c1 c2 (by omega)⟩, fun y => ?_⟩
      rw [if_pos c2]
      obtain ⟨a, rfl⟩ : ∃ q : Nat, f = (q : Int) := ⟨f.toNat, by omega⟩
      obtain ⟨n, rfl⟩ : ∃ q : Nat, n = (q : Int) := ⟨n.toNat, by omega⟩
      obtain ⟨t, rfl⟩ : ∃ q : Nat, g = (q : Int) := ⟨g.toNat, by omega⟩
      clear thr1 thr2 thr3
      obtain ⟨ix, hix⟩ : ∃ ix : Nat → Nat, ∀ i, ix i = if i < t then (if i < a then i else i + n) else if i < t + n then a + (i - t) else if i - n < a then i - n else i := ⟨_, fun _ => rfl⟩
      have ixc : ∀ i, (i < t ∧ i < a ∧ ix i = i) ∨ (i < t ∧ a ≤ i ∧ ix i = i + n) ∨ (t ≤ i ∧ i < t + n ∧ ix i = a + (i - t)) ∨ (t + n ≤ i ∧ i - n < a ∧ ix i = i - n) ∨ (t + n ≤ i ∧ a ≤ i - n ∧ ix i = i) := fun i => by
        rw [hix]
        by_cases q1 : i < t
        · rw [if_pos q1]
          by_cases q2 : i < a
          · rw [if_pos q2]; omega
          · rw [if_neg q2]; omega
        · rw [if_neg q1]
          by_cases q2 : i < t + n
          · rw [if_pos q2]; omega
          · rw [if_neg q2]
            by_cases q3 : i - n < a
            · rw [if_pos q3]; omega
            · rw [if_neg q3]; omega
      have ixN : ∀ i, i < N → ix i < N := fun i hi => by have := ixc i; omega
      have ixI : ∀ i i', ix i = ix i' → i = i' := fun i i' e => by have := ixc i; have := ixc i'; omega
      obtain ⟨b, hb⟩ : ∃ b : Nat, (b = a ∧ a ≤ t) ∨ (b = t ∧ t < a) := by
        by_cases q : a ≤ t
        · exact ⟨a, Or.inl ⟨rfl, q⟩⟩
        · exact ⟨t, Or.inr ⟨rfl, by omega⟩⟩
      have hm : ho_omin (a : Int) (t : Int) = (b : Int) := by
        unfold ho_omin
        by_cases q : (t : Int) < (a : Int)
        · rw [if_pos q]; omega
        · rw [if_neg q]; omega
      have ixb : ∀ i, i < b → ix i = i := fun i hi => by have := ixc i; omega
      have ixS : ∀ i0, i0 < N → ∃ i, i < N ∧ ix i = i0 ∧ (i0 < b → i = i0) ∧ (b ≤ i0 → b ≤ i) := fun i0 hi0 => by
        by_cases q1 : i0 < a
        · by_cases q2 : i0 < t
          · exact ⟨i0, by omega, by have := ixc i0; omega, by omega, by omega⟩
          · exact ⟨i0 + n, by omega, by have := ixc (i0 + n); omega, by omega, by omega⟩
        · by_cases q2 : i0 < a + n
          · exact ⟨t + (i0 - a), by omega, by have := ixc (t + (i0 - a)); omega, by omega, by omega⟩
          · by_cases q3 : i0 < t + n
            · exact ⟨i0 - n, by omega, by have := ixc (i0 - n); omega, by omega, by omega⟩
            · exact ⟨i0, by omega, by have := ixc i0; omega, by omega, by omega⟩
      obtain ⟨F', hF'⟩ : ∃ F' : Nat → Int, ∀ i, F' i = σ 34 (ix i) := ⟨_, fun _ => rfl⟩
      have old := h2.2.2.2.1
      have keys : ∀ i : Nat, i < N → 0 ≤ σ 8 i ∧ σ 8 i < 4812 := fun i hi => by have := old i hi; omega
      have Finj : ∀ i i', i < N → i' < N → F' i = F' i' → i = i' := fun i i' hi hi' e => ixI i i' (h2.2.2.2.2.2 _ _ (ixN i hi) (ixN i' hi') (by rw [← hF', ← hF']; exact e))
      refine sp_shift (by omega) (by omega) (by rw [h1.2.2.1]; omega) (by omega) (by rw [h1.2.2.1]; omega) (by rw [h1.2.2.1]; omega) (fun i hi => keys i (by rw [h1.2.2.1] at hi; omega)) (fun l k' k1 => ?_)
      rw [h1.2.2.1, hm, show ((N : Int) - (b : Int)).toNat = N - b by omega, Int.toNat_natCast]
      rw [h1.2.2.1] at k1
      simp only [Int.toNat_natCast] at k1
      have kk : ∀ i, i < N → k' i = σ 8 (ix i) := fun i hi => by
        have := k1 i (by omega)
        rcases ixc i with ⟨u, v, w⟩ | ⟨u, v, w⟩ | ⟨u, v, w⟩ | ⟨u, v, w⟩ | ⟨u, v, w⟩
        · rw [w, k1 i (by omega), if_pos (by omega), if_pos (by omega)]
        · rw [w, k1 i (by omega), if_pos (by omega), if_neg (by omega)]
        · rw [w, k1 i (by omega), if_neg (by omega), if_pos (by omega)]
        · rw [w, k1 i (by omega), if_neg (by omega), if_neg (by omega), if_pos (by omega)]
        · rw [w, k1 i (by omega), if_neg (by omega), if_neg (by omega), if_neg (by omega)]
      clear k1
      have kFR : FR k' F' N := fun i hi => by
        rw [kk i hi, hF']
        exact old (ix i) (ixN i hi)
      have kinj : ∀ i i', i < N → i' < N → k' i = k' i' → i = i' := fun i i' hi hi' e => by
        have u := kFR i hi
        have v := kFR i' hi'
        exact Finj i i' hi hi' (by omega)
      obtain ⟨σ1, hσ1⟩ : ∃ σ1, σ1 = sa (sa (sa σ 9 l) 8 k') 10 (rnum k' (σ 10) b (N - b)) := ⟨_, rfl⟩
      have v8 : σ1 8 = k' := by rw [hσ1, saF (show (8 : Nat) ≠ 10 by decide), saE]
      have v10 : σ1 10 = rnum k' (σ 10) b (N - b) := by rw [hσ1, saE]
      have vk : ∀ k, k ≠ 10 → k ≠ 9 → k ≠ 8 → σ1 k = σ k := fun k a1 a2 a3 => by rw [hσ1, saF a1, saF a3, saF a2]
      have v1 : σ1 1 = σ 1 := vk 1 (by omega) (by omega) (by omega)
      have v16 : σ1 1 6 = (N : Int) := by rw [v1]; exact h1.2.2.1
      have s1 : sm pFi σ σ1 := by rw [hσ1]; exact sm_sa (sm_sa (sm_sa sm_rf (fun _ => rfl)) (fun _ => rfl)) (fun _ => rfl)
      rw [← hσ1]
      clear hσ1
      refine c_find (F' := F') v16 (by omega) (by rw [v8]; exact kFR) (vk 11 (by omega) (by omega) (by omega)) h5 (by rw [vk 15 (by omega) (by omega) (by omega)]; exact h6.2.2) (fun σ2 s2 t1 t3 => ?_)
      rw [vk 13 (by omega) (by omega) (by omega), vk 14 (by omega) (by omega) (by omega)]
      refine tau (fun τ sτ τ54 eτ => ?_)
      have wk : ∀ k, k ≠ 54 → (∀ j, pFd k j = false) → k ≠ 10 → k ≠ 9 → k ≠ 8 → τ k = σ k := fun k a0 p a1 a2 a3 => by rw [eτ k a0, sm_fn s2 k p, vk k a1 a2 a3]
      have q30 := wk 30 (by omega) (fun _ => rfl) (by omega) (by omega) (by omega)
      have q34 := wk 34 (by omega) (fun _ => rfl) (by omega) (by omega) (by omega)
      have q33 := wk 33 (by omega) (fun _ => rfl) (by omega) (by omega) (by omega)
      have q12 := wk 12 (by omega) (fun _ => rfl) (by omega) (by omega) (by omega)
      have q31 := wk 31 (by omega) (fun _ => rfl) (by omega) (by omega) (by omega)
      have q37 := wk 37 (by omega) (fun _ => rfl) (by omega) (by omega) (by omega)
      have q38 := wk 38 (by omega) (fun _ => rfl) (by omega) (by omega) (by omega)
      have q1 := wk 1 (by omega) (fun _ => rfl) (by omega) (by omega) (by omega)
      have q8 : τ 8 = k' := by rw [eτ 8 (by omega), sm_fn s2 8 (fun _ => rfl), v8]
      have q10 : τ 10 = rnum k' (σ 10) b (N - b) := by rw [eτ 10 (by omega), sm_fn s2 10 (fun _ => rfl), v10]
      have sT : sm pFi σ τ := sm_tr s1 (sm_tr (sm_w s2 pFi_fd) (sm_w sτ pFi_sc))
      have m5 : τ 30 5 = (N : Int) := by rw [q30]; exact e5
      simp only [mX7_move, fX7_move, u_eC, u_eV, u_eF, u_eR, u_eI, u_eL, u_eB, u_eD, u_eM, u_eU, u_aN, u_aC, u_eK, u_eT, u_cLt, u_cLe, u_cGt, u_cGe, u_cEq, u_cNe, u_cAnd, u_cOr, u_cNot, u_zN, u_zS, u_zD, u_zL, u_zI, u_zB, u_zP, u_zF, u_zA, u_zU, u_zC, u_zR, u_zRZ, u_zRC, u_zRV, u_zT, u_zE, u_zK, u_zY, ho_nid, List.getD_cons_zero, List.getD_cons_succ, List.set_cons_zero, List.set_cons_succ, List.cons_append, List.nil_append, List.take_succ_cons, List.take_zero, Int.reduceToNat, Int.toNat_natCast, nN_0, nN_1, nN_2, nN_3, nN_4, nN_5, nN_6, nN_7, nN_8, nN_9, nN_10, nN_11, nN_12, nN_13, nN_14, nN_15, nN_16, nN_17, nN_18, nN_19, nN_20, nN_21, nN_22, nN_23, nN_24, nN_25, nN_26, nN_27, nN_28, nN_29, nN_30, nN_31, nN_32, nN_33, nN_34, nN_35, nN_36, nN_37, nN_38, nN_39, nN_40, nN_41, nN_42, nN_43, nN_44, nN_45, nN_46, nN_47, nN_48, nN_49, nN_50, nN_51, nN_52, nN_53, nN_54, nR_0_0, nR_0_1, nR_0_2, nR_0_3, nR_0_4, nR_0_5, nR_0_6, nR_0_7, nR_0_8, nR_0_9, nR_0_10, nR_1_0, nR_1_1, nR_1_2, nR_1_3, nR_1_4, nR_2_0, nR_2_1, nR_2_2, nR_2_3, nR_2_4, nR_3_0, nR_3_1, nR_4_2, nR_5_2, nR_6_0, nR_6_1, nR_6_2, nR_7_0, nR_30_2, nR_30_3, nR_30_4, nR_30_6, nR_30_7, nR_30_9, nR_30_10, nR_30_11, nR_30_12, nR_30_13, nR_30_14, nR_30_15, nR_30_16, nR_30_18, nR_30_19, nR_30_20, nR_30_21, nR_30_22, nR_30_23, nR_30_24, nR_30_28, nR_30_29, nR_30_31, sp_isPlace (σ := τ) (show 0 ≤ τ 30 5 by rw [m5]; omega) (show τ 30 5 ≤ 4800 by rw [m5]; omega), sp_areFrames (σ := τ) (show 0 ≤ τ 30 5 by rw [m5]; omega) (show τ 30 5 ≤ 4800 by rw [m5]; omega) (show 0 ≤ (a : Int) by omega) (show (a : Int) ≤ τ 30 5 by rw [m5]; omega), sp_in, zlt, zle, zl1, zl2, zl3, z1l, z2l, z3l, z1e, z2e, z3e, z1n, z2n, z3n, z0n, z0e, true_implies, false_implies, and_true, true_and, ho_upE, bI_ne, bI_eq, true_or, or_true, m5]
      rw [wsu (by omega) (by omega)]
      refine ⟨fun _ => ⟨fun w => by omega, fun _ => ⟨fun _ => ⟨fun _ => ?_, fun w => absurd (show 0 ≤ (t : Int) ∧ (t : Int) ≤ (N : Int) - (n : Int) by omega) w⟩, fun w => absurd (show (n : Int) ≤ (N : Int) - (a : Int) by omega) w⟩⟩, fun w => absurd c1 w⟩
      have n0 : ∀ i, i ≠ 0 → (ho_up τ 30 0 0) 30 i = σ 30 i := fun i hi => by rw [ho_upJ hi, q30]
      refine zW_rule (fun v σ' m => ∃ k : Nat, (k ≤ M) ∧ v = [30, (a : Int), (n : Int), (t : Int), (k : Int)] ∧ m = M - k ∧ sm (fun k _ => Nat.beq k 39 || Nat.beq k 40) (ho_up τ 30 0 0) σ' ∧ ∀ c, c < k → σ' 39 c = σ 37 c ∧ σ' 40 c = σ 38 c) _ ⟨0, by omega, rfl, rfl, sm_rf, fun c hc => by omega⟩ ?_
      rintro v σ3 m ⟨k, hk, rfl, rfl, s3, h39⟩ KK KE hKK hKE
      have x8 : σ3 30 8 = (M : Int) := by rw [s3 30 8 rfl, n0 8 (by omega)]; exact h1.2.2.2.2.2.1
      have x37 : σ3 37 = σ 37 := by rw [sm_fn s3 37 (fun _ => rfl), ho_upF (show (37 : Nat) ≠ 30 by decide), q37]
      have x38 : σ3 38 = σ 38 := by rw [sm_fn s3 38 (fun _ => rfl), ho_upF (show (38 : Nat) ≠ 30 by decide), q38]
      simp only [u_eC, u_eV, u_eF, u_eR, u_eI, u_eL, u_eB, u_eD, u_eM, u_eU, u_aN, u_aC, u_eK, u_eT, u_cLt, u_cLe, u_cGt, u_cGe, u_cEq, u_cNe, u_cAnd, u_cOr, u_cNot, u_zN, u_zS, u_zD, u_zL, u_zI, u_zB, u_zP, u_zF, u_zA, u_zU, u_zC, u_zR, u_zRZ, u_zRC, u_zRV, u_zT, u_zE, u_zK, u_zY, ho_nid, List.getD_cons_zero, List.getD_cons_succ, List.set_cons_zero, List.set_cons_succ, List.cons_append, List.nil_append, List.take_succ_cons, List.take_zero, Int.reduceToNat, Int.toNat_natCast, nN_0, nN_1, nN_2, nN_3, nN_4, nN_5, nN_6, nN_7, nN_8, nN_9, nN_10, nN_11, nN_12, nN_13, nN_14, nN_15, nN_16, nN_17, nN_18, nN_19, nN_20, nN_21, nN_22, nN_23, nN_24, nN_25, nN_26, nN_27, nN_28, nN_29, nN_30, nN_31, nN_32, nN_33, nN_34, nN_35, nN_36, nN_37, nN_38, nN_39, nN_40, nN_41, nN_42, nN_43, nN_44, nN_45, nN_46, nN_47, nN_48, nN_49, nN_50, nN_51, nN_52, nN_53, nN_54, nR_0_0, nR_0_1, nR_0_2, nR_0_3, nR_0_4, nR_0_5, nR_0_6, nR_0_7, nR_0_8, nR_0_9, nR_0_10, nR_1_0, nR_1_1, nR_1_2, nR_1_3, nR_1_4, nR_2_0, nR_2_1, nR_2_2, nR_2_3, nR_2_4, nR_3_0, nR_3_1, nR_4_2, nR_5_2, nR_6_0, nR_6_1, nR_6_2, nR_7_0, nR_30_2, nR_30_3, nR_30_4, nR_30_6, nR_30_7, nR_30_9, nR_30_10, nR_30_11, nR_30_12, nR_30_13, nR_30_14, nR_30_15, nR_30_16, nR_30_18, nR_30_19, nR_30_20, nR_30_21, nR_30_22, nR_30_23, nR_30_24, nR_30_28, nR_30_29, nR_30_31, saF, saE, ho_upF, ho_upE, ne_eq, not_false_eq_true, Nat.reduceEqDiff, x8]
      simp only [mR_30_2, mR_30_3, mR_30_4, mR_30_6, mR_30_7, mR_30_9, mR_30_10, mR_30_11, mR_30_12, mR_30_13, mR_30_14, mR_30_15, mR_30_16, mR_30_18, mR_30_19, mR_30_20, mR_30_21, mR_30_22, mR_30_23, mR_30_24, mR_30_28, mR_30_29, mR_30_31, mR_0_9, mR_7_0, nN_25, nN_26, nN_27, nN_28, nN_29, nN_30, nN_31, nN_32, nN_33, nN_34, nN_35, nN_36, nN_37, nN_38, nN_39, nN_40, nN_41, nN_42, nN_43, nN_44, nN_45, nN_46, nN_47, nN_48, nN_49, nN_50, nN_51, nN_52, nN_53, nN_54, Int.toNat_natCast, saF, saE, ho_upF, ho_upE, ne_eq, not_false_eq_true, Nat.reduceEqDiff]
      refine ⟨fun z1 => ?_, fun z1 => hKE _ ?_⟩
      · rw [inc (by omega)]
        refine ⟨by omega, by omega, by omega, by omega, hKK _ _ (M - (k + 1)) (by omega) ⟨k + 1, by omega, rfl, rfl, sm_up (sm_up s3 rfl) rfl, fun c hc => ?_⟩⟩
        rw [ho_upF (show (39 : Nat) ≠ 40 by decide)]
        by_cases q : c = k
        · subst q
          rw [ho_upE, ho_upE, x37, x38]
          exact ⟨rfl, rfl⟩
        · rw [ho_upJ q, ho_upJ q, ho_upF (show (40 : Nat) ≠ 39 by decide)]
          exact h39 c (by omega)
      have kM : k = M := by omega
      subst kM
      show mX7_takes [30, (a : Int), (n : Int)] σ3 _ _
      have x5 : σ3 30 5 = (N : Int) := by rw [s3 30 5 rfl, n0 5 (by omega)]; exact e5
      refine sp_takes (by omega) (by omega) (by rw [x5]; omega) (by rw [x5]; omega) (fun fm gm f1 f2 => ?_)
      have x34 : σ3 34 = σ 34 := by rw [sm_fn s3 34 (fun _ => rfl), ho_upF (show (34 : Nat) ≠ 30 by decide), q34]
      rw [x5, x34] at f1
      rw [x34] at f2
      simp only [Int.toNat_natCast] at f1 f2
      rw [x5, show ((N : Int) - (n : Int)) = ((N - n : Nat) : Int) by omega]
      obtain ⟨σ4, hσ4⟩ : ∃ σ4, σ4 = sa (ho_up (sa σ3 35 gm) 30 5 ((N - n : Nat) : Int)) 34 fm := ⟨_, rfl⟩
      have y34 : σ4 34 = fm := by rw [hσ4, saE]
      have y35 : σ4 35 = gm := by rw [hσ4, saF (show (35 : Nat) ≠ 34 by decide), ho_upF (show (35 : Nat) ≠ 30 by decide), saE]
      have y5 : σ4 30 5 = ((N - n : Nat) : Int) := by rw [hσ4, saF (show (30 : Nat) ≠ 34 by decide), ho_upE]
      have s4 : sm (fun k i => Nat.beq k 34 || (Nat.beq k 35 || (Nat.beq k 30 && Nat.beq i 5))) σ3 σ4 := by rw [hσ4]; exact sm_sa (sm_up (sm_sa sm_rf (fun _ => rfl)) rfl) (fun _ => rfl)
      rw [← hσ4]
      clear hσ4
      show mX7_puts [30, (t : Int), (n : Int)] σ4 _ _
      refine sp_puts (by omega) (by omega) (by rw [y5]; omega) (by rw [y5]; omega) (fun fn g1 => ?_)
      rw [y5, y34, y35] at g1
      rw [y5, show (((N - n : Nat) : Int) + (n : Int)) = (N : Int) by omega]
      rw [show (((N - n : Nat) : Int) + (n : Int)) = (N : Int) by omega] at g1
      simp only [Int.toNat_natCast] at g1
      obtain ⟨σ5, hσ5⟩ : ∃ σ5, σ5 = ho_up (sa σ4 34 fn) 30 5 (N : Int) := ⟨_, rfl⟩
      have z34 : σ5 34 = fn := by rw [hσ5, ho_upF (show (34 : Nat) ≠ 30 by decide), saE]
      have z5 : σ5 30 5 = (N : Int) := by rw [hσ5, ho_upE]
      have s5 : sm (fun k i => Nat.beq k 34 || (Nat.beq k 35 || (Nat.beq k 30 && Nat.beq i 5))) σ4 σ5 := by rw [hσ5]; exact sm_up (sm_sa sm_rf (fun _ => rfl)) rfl
      rw [← hσ5]
      clear hσ5
      have s35 := sm_tr s4 s5
      have fF : ∀ i, i < N → fn i = F' i := fun i hi => by
        rw [hF', g1 i (by omega)]
        rcases ixc i with ⟨u, v, w⟩ | ⟨u, v, w⟩ | ⟨u, v, w⟩ | ⟨u, v, w⟩ | ⟨u, v, w⟩
        · rw [w, if_pos (by omega), f1 i (by omega), if_pos (by omega)]
        · rw [w, if_pos (by omega), f1 i (by omega), if_neg (by omega)]
        · rw [w, if_neg (by omega), if_pos (by omega), f2 (i - t) (by omega)]
        · rw [w, if_neg (by omega), if_neg (by omega), f1 (i - n) (by omega), if_pos (by omega)]
        · rw [w, if_neg (by omega), if_neg (by omega), f1 (i - n) (by omega), if_neg (by omega), show i - n + n = i by omega]
      have FB : ∀ i, i < N → 0 ≤ F' i ∧ F' i < 4800 := fun i hi => ⟨(kFR i hi).1, (kFR i hi).2.1⟩
      have z3 : ∀ i, i ≠ 5 → i ≠ 0 → σ5 30 i = σ 30 i := fun i hi hi0 => by
        rw [s35 30 i (show Nat.beq i 5 = false by
          cases q : Nat.beq i 5
          · rfl
          · exact absurd (Nat.eq_of_beq_eq_true q) hi), s3 30 i rfl, n0 i hi0]
      have z30 : σ5 30 0 = 0 := by rw [s35 30 0 rfl, s3 30 0 rfl, ho_upE]
      have zk : ∀ k, (∀ j, (Nat.beq k 34 || (Nat.beq k 35 || (Nat.beq k 30 && Nat.beq j 5))) = false) → (∀ j : Nat, (Nat.beq k 39 || Nat.beq k 40) = false) → k ≠ 30 → σ5 k = τ k := fun k p1 p2 p3 => by rw [sm_fn s35 k p1, sm_fn s3 k p2, ho_upF p3]
      have z33 : σ5 33 = σ 33 := by rw [zk 33 (fun _ => rfl) (fun _ => rfl) (by omega), q33]
      show mX7_settles [30] σ5 _ _
      refine m_settles (F' := F') (S' := S) (by rw [z3 1 (by omega) (by omega)]; exact h1.2.1) h2.1 z5 (by omega) (by rw [z3 8 (by omega) (by omega)]; exact h1.2.2.2.2.2.1) hM (fun i hi => by rw [z34]; exact fF i hi) FB Finj (by rw [z33]; exact h5.1) (fun υ sυ plm t2 => ?_)
      rw [z33] at t2
      have u30 : ∀ i, υ 30 i = σ5 30 i := fun i => sυ 30 i rfl
      have u8' : υ 30 8 = (k : Int) := by rw [u30, z3 8 (by omega) (by omega)]; exact h1.2.2.2.2.2.1
      obtain ⟨P, hP⟩ : ∃ P : Nat → Bool, ∀ c, P c = (decide (υ 37 c ≠ υ 39 c) || decide (υ 38 c ≠ υ 40 c)) := ⟨_, fun _ => rfl⟩
      have cP : ∀ q, cnt P (q + 1) = cnt P q + if P q then 1 else 0 := fun _ => rfl
      have cr : ∀ q, 0 ≤ cnt P q ∧ cnt P q ≤ q := fun q => cnt_range P q
      show zW _ _ [30, (a : Int), (n : Int), (t : Int), 0, 0] υ _ _ _
      refine zW_rule (fun v σ' m => ∃ q : Nat, (q ≤ k) ∧ v = [30, (a : Int), (n : Int), (t : Int), cnt P q, (q : Int)] ∧ m = k - q ∧ υ = σ') _ ⟨0, by omega, rfl, rfl, rfl⟩ ?_
      rintro v σ' m ⟨q, hq, rfl, rfl, rfl⟩ KK KE hKK hKE
      have crq := cr q
      simp only [u_eC, u_eV, u_eF, u_eR, u_eI, u_eL, u_eB, u_eD, u_eM, u_eU, u_aN, u_aC, u_eK, u_eT, u_cLt, u_cLe, u_cGt, u_cGe, u_cEq, u_cNe, u_cAnd, u_cOr, u_cNot, u_zN, u_zS, u_zD, u_zL, u_zI, u_zB, u_zP, u_zF, u_zA, u_zU, u_zC, u_zR, u_zRZ, u_zRC, u_zRV, u_zT, u_zE, u_zK, u_zY, ho_nid, List.getD_cons_zero, List.getD_cons_succ, List.set_cons_zero, List.set_cons_succ, List.cons_append, List.nil_append, List.take_succ_cons, List.take_zero, Int.reduceToNat, Int.toNat_natCast, nN_0, nN_1, nN_2, nN_3, nN_4, nN_5, nN_6, nN_7, nN_8, nN_9, nN_10, nN_11, nN_12, nN_13, nN_14, nN_15, nN_16, nN_17, nN_18, nN_19, nN_20, nN_21, nN_22, nN_23, nN_24, nN_25, nN_26, nN_27, nN_28, nN_29, nN_30, nN_31, nN_32, nN_33, nN_34, nN_35, nN_36, nN_37, nN_38, nN_39, nN_40, nN_41, nN_42, nN_43, nN_44, nN_45, nN_46, nN_47, nN_48, nN_49, nN_50, nN_51, nN_52, nN_53, nN_54, nR_0_0, nR_0_1, nR_0_2, nR_0_3, nR_0_4, nR_0_5, nR_0_6, nR_0_7, nR_0_8, nR_0_9, nR_0_10, nR_1_0, nR_1_1, nR_1_2, nR_1_3, nR_1_4, nR_2_0, nR_2_1, nR_2_2, nR_2_3, nR_2_4, nR_3_0, nR_3_1, nR_4_2, nR_5_2, nR_6_0, nR_6_1, nR_6_2, nR_7_0, nR_30_2, nR_30_3, nR_30_4, nR_30_6, nR_30_7, nR_30_9, nR_30_10, nR_30_11, nR_30_12, nR_30_13, nR_30_14, nR_30_15, nR_30_16, nR_30_18, nR_30_19, nR_30_20, nR_30_21, nR_30_22, nR_30_23, nR_30_24, nR_30_28, nR_30_29, nR_30_31, saF, saE, ho_upF, ho_upE, ne_eq, not_false_eq_true, Nat.reduceEqDiff, u8']
      simp only [mR_30_2, mR_30_3, mR_30_4, mR_30_6, mR_30_7, mR_30_9, mR_30_10, mR_30_11, mR_30_12, mR_30_13, mR_30_14, mR_30_15, mR_30_16, mR_30_18, mR_30_19, mR_30_20, mR_30_21, mR_30_22, mR_30_23, mR_30_24, mR_30_28, mR_30_29, mR_30_31, mR_0_9, mR_7_0, nN_25, nN_26, nN_27, nN_28, nN_29, nN_30, nN_31, nN_32, nN_33, nN_34, nN_35, nN_36, nN_37, nN_38, nN_39, nN_40, nN_41, nN_42, nN_43, nN_44, nN_45, nN_46, nN_47, nN_48, nN_49, nN_50, nN_51, nN_52, nN_53, nN_54, Int.toNat_natCast, saF, saE, ho_upF, ho_upE, ne_eq, not_false_eq_true, Nat.reduceEqDiff]
      refine ⟨fun z1 => ?_, fun z1 => hKE _ ?_⟩
      · rw [inc (by omega)]
        have st : KK [30, (a : Int), (n : Int), (t : Int), cnt P (q + 1), ((q + 1 : Nat) : Int)] υ := hKK _ _ (k - (q + 1)) (by omega) ⟨q + 1, by omega, rfl, rfl, rfl⟩
        refine ⟨by omega, by omega, fun y => ?_, fun y => ⟨by omega, by omega, fun y2 => ?_, fun y2 => ?_⟩⟩
        · have e : P q = true := by rw [hP]; simp [y]
          rw [wad (by omega) (by omega), show cnt P q + 1 = cnt P (q + 1) by rw [cP, e]; simp]
          exact st
        · have e : P q = true := by rw [hP]; simp [y2]
          rw [wad (by omega) (by omega), show cnt P q + 1 = cnt P (q + 1) by rw [cP, e]; simp]
          exact st
        · have e : P q = false := by rw [hP]; simp [y, y2]
          rw [wad (by omega) (by omega), show cnt P q + 0 = cnt P (q + 1) by rw [cP, e]; simp]
          exact st
      have qk : q = k := by omega
      subst qk
      have x39 : ∀ c, υ 39 c = σ3 39 c ∧ υ 40 c = σ3 40 c := fun c => ⟨by rw [sm_fn sυ 39 (fun _ => rfl), sm_fn s35 39 (fun _ => rfl)], by rw [sm_fn sυ 40 (fun _ => rfl), sm_fn s35 40 (fun _ => rfl)]⟩
      have eC : cnt P q = cnt (fun c => decide (σ2 13 c ≠ σ 13 c) || decide (σ2 14 c ≠ σ 14 c)) 16 := by
        rw [cnt_more (n := q) (m := 16) hM (fun c y1 y2 => ?_)]
        · refine cnt_congr (fun c hc => ?_)
          have y1 := LR_uniq (t1 c (by omega)) (t2 c hc)
          have y2 := h6.1 c hc
          have y3 := h39 c hc
          have y4 := x39 c
          rw [hP, y4.1, y4.2, y3.1, y3.2, y1.1, y1.2, y2.1, y2.2.1]
        · have y3 := t_none h5 FB y1 y2 (t1 c y2)
          have y4 := h6.2.1 c y1 y2
          rw [y3.1, y3.2, y4.1, y4.2]
          rfl
      have uk : ∀ k, (∀ j : Nat, (Nat.beq k 32 || (Nat.beq k 37 || Nat.beq k 38)) = false) → (∀ j, (Nat.beq k 34 || (Nat.beq k 35 || (Nat.beq k 30 && Nat.beq j 5))) = false) → (∀ j : Nat, (Nat.beq k 39 || Nat.beq k 40) = false) → k ≠ 30 → υ k = τ k := fun k p0 p1 p2 p3 => by rw [sm_fn sυ k p0, zk k p1 p2 p3]
      have u34 : υ 34 = fn := (sm_fn sυ 34 (fun _ => rfl)).trans z34
      have u31 : υ 31 = σ 31 := by rw [uk 31 (fun _ => rfl) (fun _ => rfl) (fun _ => rfl) (by omega), q31]
      have u12 : υ 12 = σ 12 := by rw [uk 12 (fun _ => rfl) (fun _ => rfl) (fun _ => rfl) (by omega), q12]
      have u8 : υ 8 = k' := by rw [uk 8 (fun _ => rfl) (fun _ => rfl) (fun _ => rfl) (by omega), q8]
      have u10 : υ 10 = rnum k' (σ 10) b (N - b) := by rw [uk 10 (fun _ => rfl) (fun _ => rfl) (fun _ => rfl) (by omega), q10]
      have u33 : υ 33 = σ 33 := by rw [uk 33 (fun _ => rfl) (fun _ => rfl) (fun _ => rfl) (by omega), q33]
      have u1 : υ 1 = σ 1 := by rw [uk 1 (fun _ => rfl) (fun _ => rfl) (fun _ => rfl) (by omega), q1]
      have u13 : υ 13 = σ2 13 := by rw [uk 13 (fun _ => rfl) (fun _ => rfl) (fun _ => rfl) (by omega), eτ 13 (by omega)]
      have u14 : υ 14 = σ2 14 := by rw [uk 14 (fun _ => rfl) (fun _ => rfl) (fun _ => rfl) (by omega), eτ 14 (by omega)]
      have u15 : υ 15 = σ2 15 := by rw [uk 15 (fun _ => rfl) (fun _ => rfl) (fun _ => rfl) (by omega), eτ 15 (by omega)]
      have u54 : υ 54 = τ 54 := uk 54 (fun _ => rfl) (fun _ => rfl) (fun _ => rfl) (by omega)
      have us : sm pFi σ υ := sm_tr (sm_up sT rfl : sm pFi σ (ho_up τ 30 0 0)) (sm_tr (sm_mo s3 pFi_39) (sm_tr (sm_mo s35 pFi_34) (sm_mo sυ pFi_32)))
      have pF : ∀ i, i < N → F' i < 400 * (S : Int) ∧ F' i % 400 < σ 31 (F' i / 400).toNat := fun i hi => by
        rw [hF']
        exact h2.2.2.2.2.1 _ (ixN i hi)
      have lrF : ∀ c s l, LR (fun i => bit (σ 33 (F' i).toNat) c = true) N s l → LR (fun i => bit (σ 33 (υ 34 i).toNat) c = true) N s l := fun c s l hl => LR_congr (fun i hi => by rw [u34, fF i hi]) hl
      refine ⟨by rw [u30]; exact z30, (congrFun u54 0).trans (τ54.trans eC.symm), Inv_fi (S' := S) (N' := N) hj h1 h5 h7 h8 h9 h10 h11 h12 h13 us ⟨by rw [u1]; exact h1.1, by rw [u30, z3 1 (by omega) (by omega)]; exact h1.2.1, by rw [u1]; exact h1.2.2.1, by rw [u30]; exact z5⟩ ⟨h2.1, h2.2.1, by rw [u12, u31]; exact h2.2.2.1, fun i hi => ?_, fun i hi => ?_, fun i i' hi hi' e => ?_⟩ (fun s f hs hf => ?_) (fun s f hs hf => ?_) (Nat.le_refl _) u33 (fun c hc => ?_) (fun c hc => ?_) (by rw [u15]; exact t3)⟩
      · rw [u8, u34, fF i hi]; exact kFR i hi
      · rw [u34, fF i hi, u31]; exact pF i hi
      · rw [u34, fF i hi, fF i' hi'] at e; exact Finj i i' hi hi' e
      · rw [u31] at hf
        have po := h3 s f hs hf
        have fr := h2.2.2.1 s hs
        rw [u8, u10]
        have pr := plc_rn (k' := k') (pl := σ 10) (a := b) (N' := N) (x := ((401 * s + f : Nat) : Int)) (by omega) (by omega) (fun i hi => by have := kFR i hi; omega) kinj (fun no => by
          rw [Int.toNat_natCast]
          rcases po with ⟨i0, i1, i2, i3⟩ | ⟨i1, i2⟩
          · obtain ⟨i, y1, y2, y3, y4⟩ := ixS i0 i1
            by_cases y : i0 < b
            · exact Or.inl ⟨i0, y, by rw [kk i0 i1, ixb i0 y]; exact i2, i3⟩
            · exact absurd (by rw [kk i y1, y2]; exact i2) (no i (y4 (by omega)) y1)
          · exact Or.inr ⟨fun i hi e => i1 (ix i) (ixN i (by omega)) (by rw [← kk i (by omega)]; exact e), i2⟩)
        rw [Int.toNat_natCast] at pr
        exact pr
      · rw [u31] at hf
        have fr := h2.2.2.1 s hs
        have pm := plm ((400 * s + f : Nat) : Int) (by omega) (by omega)
        rw [Int.toNat_natCast] at pm
        exact PLC_F pm (fun i hi => by rw [u34]; exact fF i hi)
      · rw [u13, u14]
        exact lrF c _ _ (t1 c hc)
      · exact lrF c _ _ (t2 c hc)
    · rw [if_neg (by omega)]
      exact Or.inr ⟨by trivial, thr2 c1 (by omega)⟩
  · rw [if_neg c1]
    exact Or.inl ⟨by trivial, thr1 c1⟩
