def p27 (k j : Nat) : Bool := pSc k j || Nat.beq k 27
theorem p27_sc : ∀ k j, pSc k j = true → p27 k j = true := fun k j z => by unfold p27; rw [z]; rfl
def pNk (k j : Nat) : Bool := pSc k j || (Nat.beq k 27 || (Nat.beq k 44 || (Nat.beq k 26 || Nat.beq k 36)))
theorem pNk_sc : ∀ k j, pSc k j = true → pNk k j = true := fun k j z => by unfold pNk; rw [z]; rfl
theorem pNk_27 : ∀ k j, p27 k j = true → pNk k j = true := fun k j z => by
  unfold p27 at z
  unfold pNk
  cases a : pSc k j <;> cases b : Nat.beq k 27 <;> simp [a, b] at z ⊢
theorem Inv_nk {σ υ : ho_S} {j : Nat} (hj : j < 512) (h : hi_Inv j σ) (s : sm pNk σ υ) (hN : GN υ) (hK : GK υ) : hi_Inv (j + 1) υ := by
  obtain ⟨_, S, N, M, h1, h2, h3, h4, h5, h6, h7, h8, h9, h10, h11, h12, h13⟩ := h
  exact ⟨by omega, S, N, M, GS_sm h1 s ⟨rfl, rfl, rfl, rfl, rfl, rfl⟩, GF_sm h2 s (fun _ => ⟨rfl, rfl, rfl, rfl⟩), GPc_sm h3 s (fun _ => ⟨rfl, rfl, rfl⟩), GPm_sm h4 s (fun _ => ⟨rfl, rfl, rfl⟩), GL_sm h5 s (fun _ => ⟨rfl, rfl⟩), GT_sm h6 s (fun _ => ⟨rfl, rfl, rfl, rfl, rfl, rfl, rfl⟩), hK, GX_sm h8 s (fun _ => ⟨rfl, rfl, rfl, rfl, rfl, rfl⟩), GB_sm h9 s (fun _ => ⟨rfl, rfl⟩) rfl, hN, GM_sm h11 s (by omega) (by omega) (fun _ => ⟨rfl, rfl, rfl, rfl, rfl, rfl, rfl, rfl, rfl, rfl⟩) rfl, GM_sm h12 s (by omega) (by omega) (fun _ => ⟨rfl, rfl, rfl, rfl, rfl, rfl, rfl, rfl, rfl, rfl⟩) rfl, GW_sm h13 s ⟨rfl, rfl, rfl, rfl⟩⟩
theorem mq_letGo {S N M : Nat} {c t r w : Int} {σ : ho_S} (h1 : GS S N M σ) (h2 : GF S N σ) (h6 : GT N M σ) (h8 : GX σ) (h13 : GW σ) (Q : ho_K) (τ : ho_S) (sτ : sm pSc σ τ) (q1 : ¬ (((0 ≤ c ∧ c < (M : Int)) ∧ 0 ≤ t ∧ t < 3) ∧ 0 ≤ r ∧ r ≤ 7) → Q 0 (ho_up τ 30 0 1)) (q2 : (((0 ≤ c ∧ c < (M : Int)) ∧ 0 ≤ t ∧ t < 3) ∧ 0 ≤ r ∧ r ≤ 7) → ¬ (1 ≤ w ∧ w ≤ 99) → Q 0 (ho_up τ 30 0 2)) (q3 : ∀ (x y z n : Nat) (T : Nat → Int), c = (x : Int) → t = (y : Int) → r = (z : Int) → x < M → y < 3 → z < 8 → (1 ≤ w ∧ w ≤ 99) → TXT σ (3 * x + y) n T → MTX σ (3 * x + y) n T → ∀ τ2 : ho_S, sm pSc σ τ2 → sm pSc τ τ2 → τ2 54 = τ 54 → (bit (RB (σ 37) (σ 38) (σ 36) (σ 34) (decide (0 < y ∧ 0 < n ∧ σ 43 (3 * x + y) < σ 43 (3 * x))) T n (σ 30 25) (σ 30 26) M x) z = true → Q (σ 44 (8 * (3 * x + y) + z)) (ho_up (ho_up τ2 30 0 0) 44 (8 * (3 * x + y) + z) w)) ∧ (¬ bit (RB (σ 37) (σ 38) (σ 36) (σ 34) (decide (0 < y ∧ 0 < n ∧ σ 43 (3 * x + y) < σ 43 (3 * x))) T n (σ 30 25) (σ 30 26) M x) z = true → Q 0 (ho_up τ2 30 0 3))) : mX7_letGo [30, c, t, r, w] τ Q (fun _ _ => False) := by
  have hM := h1.2.2.2.2.2.2
  have m := mGS h1 sτ
  have it := fun (c t : Int) (Q : ho_K) (X : ho_X) => sp_isText (σ := τ) (c := c) (t := t) (Q := Q) (X := X) (show 0 ≤ τ 30 8 by rw [m.2.2.2.2.2]; omega) (show τ 30 8 ≤ 16 by rw [m.2.2.2.2.2]; omega)
  rw [m.2.2.2.2.2] at it
  simp only [mX7_letGo, fX7_letGo, u_eC, u_eV, u_eF, u_eR, u_eI, u_eL, u_eB, u_eD, u_eM, u_eU, u_aN, u_aC, u_eK, u_eT, u_cLt, u_cLe, u_cGt, u_cGe, u_cEq, u_cNe, u_cAnd, u_cOr, u_cNot, u_zN, u_zS, u_zD, u_zL, u_zI, u_zB, u_zP, u_zF, u_zA, u_zU, u_zC, u_zR, u_zRZ, u_zRC, u_zRV, u_zT, u_zE, u_zK, u_zY, ho_nid, List.getD_cons_zero, List.getD_cons_succ, List.set_cons_zero, List.set_cons_succ, List.cons_append, List.nil_append, List.take_succ_cons, List.take_zero, Int.reduceToNat, Int.toNat_natCast, nN_0, nN_1, nN_2, nN_3, nN_4, nN_5, nN_6, nN_7, nN_8, nN_9, nN_10, nN_11, nN_12, nN_13, nN_14, nN_15, nN_16, nN_17, nN_18, nN_19, nN_20, nN_21, nN_22, nN_23, nN_24, nN_25, nN_26, nN_27, nN_28, nN_29, nN_30, nN_31, nN_32, nN_33, nN_34, nN_35, nN_36, nN_37, nN_38, nN_39, nN_40, nN_41, nN_42, nN_43, nN_44, nN_45, nN_46, nN_47, nN_48, nN_49, nN_50, nN_51, nN_52, nN_53, nN_54, nR_0_0, nR_0_1, nR_0_2, nR_0_3, nR_0_4, nR_0_5, nR_0_6, nR_0_7, nR_0_8, nR_0_9, nR_0_10, nR_1_0, nR_1_1, nR_1_2, nR_1_3, nR_1_4, nR_2_0, nR_2_1, nR_2_2, nR_2_3, nR_2_4, nR_3_0, nR_3_1, nR_4_2, nR_5_2, nR_6_0, nR_6_1, nR_6_2, nR_7_0, nR_30_2, nR_30_3, nR_30_4, nR_30_6, nR_30_7, nR_30_9, nR_30_10, nR_30_11, nR_30_12, nR_30_13, nR_30_14, nR_30_15, nR_30_16, nR_30_18, nR_30_19, nR_30_20, nR_30_21, nR_30_22, nR_30_23, nR_30_24, nR_30_28, nR_30_29, nR_30_31, it, sp_in, zlt, zle, zl1, zl2, zl3, z1l, z2l, z3l, z1e, z2e, z3e, z1n, z2n, z3n, z0n, z0e, true_implies, false_implies, and_true, true_and, ho_upE, bI_ne, bI_eq, true_or, or_true]
  refine ⟨fun a => ⟨fun b => ⟨fun d => ?_, fun d => q2 ⟨a, b⟩ d⟩, fun b => q1 (fun z => b z.2)⟩, fun a => q1 (fun z => a z.1)⟩
  obtain ⟨x, rfl⟩ : ∃ y : Nat, c = (y : Int) := ⟨c.toNat, by omega⟩
  obtain ⟨y, rfl⟩ : ∃ y : Nat, t = (y : Int) := ⟨t.toNat, by omega⟩
  obtain ⟨z, rfl⟩ : ∃ y : Nat, r = (y : Int) := ⟨r.toNat, by omega⟩
  obtain ⟨n, T, hT, hT', hG⟩ := GX_TXT h8 (show 3 * x + y < 48 by omega)
  have q4 := q3 x y z n T rfl rfl rfl (by omega) (by omega) (by omega) d hT hT'
  refine brk_m h1 h2 h6 h13 (by omega) (by omega) hT' (sm_up sτ rfl : sm pSc σ (ho_up τ 30 0 0)) (fun τ2 s2 s2' => ?_)
  have q5 := q4 τ2 s2 (sm_tr (sm_up sm_rf rfl : sm pSc τ (ho_up τ 30 0 0)) (sm_w s2' pSc_ro)) (sm_fn s2' 54 (fun _ => rfl))
  obtain ⟨v, hv, hv2⟩ := RB_256 (st := σ 37) (ln := σ 38) (lk := σ 36) (F := σ 34) (stale := decide (0 < y ∧ 0 < n ∧ σ 43 (3 * x + y) < σ 43 (3 * x))) (T := T) (n := n) (W := σ 30 25) (sp := σ 30 26) (M := M) (c := x)
  rw [hv] at q5 ⊢
  have sb := shr_bit (x := v) (c := z) (by omega) (by omega)
  simp only [ne_eq, sb]
  clear sb
  refine ⟨fun e => ?_, fun e => q5.2 e⟩
  have e44 : τ2 44 = σ 44 := sm_fn s2 44 (fun _ => rfl)
  have ix : ho_oadd (ho_omul 8 (ho_oadd (ho_omul 3 (x : Int)) (y : Int))) (z : Int) = ((8 * (3 * x + y) + z : Nat) : Int) := by
    rw [mIdx (by omega) (by omega), wmu (by omega) (by omega), wad (by omega) (by omega)]; omega
  rw [ix]
  clear ix
  simp only [mR_30_2, mR_30_3, mR_30_4, mR_30_6, mR_30_7, mR_30_9, mR_30_10, mR_30_11, mR_30_12, mR_30_13, mR_30_14, mR_30_15, mR_30_16, mR_30_18, mR_30_19, mR_30_20, mR_30_21, mR_30_22, mR_30_23, mR_30_24, mR_30_28, mR_30_29, mR_30_31, mR_0_9, mR_7_0, nN_25, nN_26, nN_27, nN_28, nN_29, nN_30, nN_31, nN_32, nN_33, nN_34, nN_35, nN_36, nN_37, nN_38, nN_39, nN_40, nN_41, nN_42, nN_43, nN_44, nN_45, nN_46, nN_47, nN_48, nN_49, nN_50, nN_51, nN_52, nN_53, nN_54, Int.toNat_natCast, saF, saE, ho_upF, ho_upE, ne_eq, not_false_eq_true, Nat.reduceEqDiff, e44]
  exact ⟨by omega, by omega, q5.1 e⟩

theorem op_letGo {j : Nat} {σ : ho_S} {c t r w : Int} (hj : j < 512) (hI : hi_Inv j σ) : mX6_letGo [0, c, t, r, w] σ (fun a σ => mX7_letGo [30, c, t, r, w] (ho_up σ 54 0 a) (fun b σ => σ 30 0 = 0 ∧ σ 54 0 = b ∧ hi_Inv (j + 1) σ) (fun _ _ => False)) (fun ec σ => (ec = 2 ∧ mX7_letGo [30, c, t, r, w] σ (fun _ σ => σ 30 0 = 1 ∧ hi_Inv (j + 1) σ) (fun _ _ => False)) ∨ (ec = 0 ∧ mX7_letGo [30, c, t, r, w] σ (fun _ σ => σ 30 0 = 2 ∧ hi_Inv (j + 1) σ) (fun _ _ => False)) ∨ (ec = 1 ∧ mX7_letGo [30, c, t, r, w] σ (fun _ σ => σ 30 0 = 3 ∧ hi_Inv (j + 1) σ) (fun _ _ => False))) := by
  have hI0 := hI
  obtain ⟨_, S, N, M, h1, h2, h3, h4, h5, h6, h7, h8, h9, h10, h11, h12, h13⟩ := hI
  have hM := h1.2.2.2.2.2.2
  have hN : N ≤ 4800 := by have := h2.1; have := h2.2.1; omega
  have model := fun (Q : ho_K) (τ : ho_S) (sτ : sm pSc σ τ) => mq_letGo (c := c) (t := t) (r := r) (w := w) h1 h2 h6 h8 h13 Q τ sτ
  simp only [mX6_letGo, fX6_letGo, u_eC, u_eV, u_eF, u_eR, u_eI, u_eL, u_eB, u_eD, u_eM, u_eU, u_aN, u_aC, u_eK, u_eT, u_cLt, u_cLe, u_cGt, u_cGe, u_cEq, u_cNe, u_cAnd, u_cOr, u_cNot, u_zN, u_zS, u_zD, u_zL, u_zI, u_zB, u_zP, u_zF, u_zA, u_zU, u_zC, u_zR, u_zRZ, u_zRC, u_zRV, u_zT, u_zE, u_zK, u_zY, ho_nid, List.getD_cons_zero, List.getD_cons_succ, List.set_cons_zero, List.set_cons_succ, List.cons_append, List.nil_append, List.take_succ_cons, List.take_zero, Int.reduceToNat, Int.toNat_natCast, nN_0, nN_1, nN_2, nN_3, nN_4, nN_5, nN_6, nN_7, nN_8, nN_9, nN_10, nN_11, nN_12, nN_13, nN_14, nN_15, nN_16, nN_17, nN_18, nN_19, nN_20, nN_21, nN_22, nN_23, nN_24, nN_25, nN_26, nN_27, nN_28, nN_29, nN_30, nN_31, nN_32, nN_33, nN_34, nN_35, nN_36, nN_37, nN_38, nN_39, nN_40, nN_41, nN_42, nN_43, nN_44, nN_45, nN_46, nN_47, nN_48, nN_49, nN_50, nN_51, nN_52, nN_53, nN_54, nR_0_0, nR_0_1, nR_0_2, nR_0_3, nR_0_4, nR_0_5, nR_0_6, nR_0_7, nR_0_8, nR_0_9, nR_0_10, nR_1_0, nR_1_1, nR_1_2, nR_1_3, nR_1_4, nR_2_0, nR_2_1, nR_2_2, nR_2_3, nR_2_4, nR_3_0, nR_3_1, nR_4_2, nR_5_2, nR_6_0, nR_6_1, nR_6_2, nR_7_0, nR_30_2, nR_30_3, nR_30_4, nR_30_6, nR_30_7, nR_30_9, nR_30_10, nR_30_11, nR_30_12, nR_30_13, nR_30_14, nR_30_15, nR_30_16, nR_30_18, nR_30_19, nR_30_20, nR_30_21, nR_30_22, nR_30_23, nR_30_24, nR_30_28, nR_30_29, nR_30_31, sp_needText (σ := σ) (show σ 0 11 ≤ 16 by rw [h1.2.2.2.2.1]; omega), h1.2.2.2.2.1]
  have t1 : ∀ τ : ho_S, sm pSc σ τ → ¬ (((0 ≤ c ∧ c < (M : Int)) ∧ 0 ≤ t ∧ t < 3) ∧ 0 ≤ r ∧ r ≤ 7) → mX7_letGo [30, c, t, r, w] τ (fun _ σ => σ 30 0 = 1 ∧ hi_Inv (j + 1) σ) (fun _ _ => False) := fun τ sτ z =>
    model _ τ sτ (fun _ => ⟨ho_upE, Inv_sc hj hI0 (sm_up sτ rfl)⟩) (fun y => absurd y z) (fun x y z' n T e1 e2 e3 l1 l2 l3 => absurd ⟨⟨⟨by omega, by omega⟩, by omega, by omega⟩, by omega, by omega⟩ z)
  by_cases cc : (0 ≤ c ∧ c < (M : Int)) ∧ 0 ≤ t ∧ t < 3
  · rw [if_pos cc]
    simp only [sp_needRule]
    by_cases cr : 0 ≤ r ∧ r < 8
    · rw [if_pos cr]
      have ok : ((0 ≤ c ∧ c < (M : Int)) ∧ 0 ≤ t ∧ t < 3) ∧ 0 ≤ r ∧ r ≤ 7 := ⟨cc, by omega⟩
      have t2 : ¬ (1 ≤ w ∧ w ≤ 99) → mX7_letGo [30, c, t, r, w] σ (fun _ σ => σ 30 0 = 2 ∧ hi_Inv (j + 1) σ) (fun _ _ => False) := fun z =>
        model _ σ sm_rf (fun y => absurd ok y) (fun _ _ => ⟨ho_upE, Inv_sc hj hI0 (sm_up sm_rf rfl)⟩) (fun x y z' n T e1 e2 e3 l1 l2 l3 y9 => absurd y9 z)
      refine ⟨fun z => Or.inr (Or.inl ⟨by trivial, t2 (by omega)⟩), fun z1 => ⟨fun z => Or.inr (Or.inl ⟨by trivial, t2 (by omega)⟩), fun z2 => ?_⟩⟩
      have nm : 1 ≤ w ∧ w ≤ 99 := by omega
      obtain ⟨x, rfl⟩ : ∃ y : Nat, c = (y : Int) := ⟨c.toNat, by omega⟩
      obtain ⟨y, rfl⟩ : ∃ y : Nat, t = (y : Int) := ⟨t.toNat, by omega⟩
      obtain ⟨z, rfl⟩ : ∃ y : Nat, r = (y : Int) := ⟨r.toNat, by omega⟩
      obtain ⟨n, T, hT, hT', hG⟩ := GX_TXT h8 (show 3 * x + y < 48 by omega)
      refine brk_c h1 h2 h6 h7 h9 h13 (by omega) (by omega) hT sm_rf (fun σ1 s1 s1' => ?_)
      have same : ∀ (n' : Nat) (T' : Nat → Int), TXT σ (3 * x + y) n' T' → n' = n ∧ T' = T := fun n' T' h' => ⟨by have a := h'.1; have b := hT.1; omega, h'.2.2.symm.trans hT.2.2⟩
      obtain ⟨v, hv, hv2⟩ := RB_256 (st := σ 37) (ln := σ 38) (lk := σ 36) (F := σ 34) (stale := decide (0 < y ∧ 0 < n ∧ σ 43 (3 * x + y) < σ 43 (3 * x))) (T := T) (n := n) (W := σ 30 25) (sp := σ 30 26) (M := M) (c := x)
      rw [hv]
      refine sp_bit.mpr ?_
      have ab := and_bit (x := v) (c := z) (by omega) (by omega)
      have ab' : (ho_oand (v : Int) (ho_oshl 1 (z : Int)) = 0) ↔ ¬ bit (v : Int) z = true := by rw [← ab]; exact Decidable.not_not.symm
      simp only [ab, ab']
      clear ab ab'
      refine ⟨fun e => Or.inr (Or.inr ⟨by trivial, ?_⟩), fun e => ?_⟩
      · refine model _ σ1 s1 (fun y9 => absurd ok y9) (fun _ y9 => absurd nm y9) (fun x' y' z' n' T' e1 e2 e3 l1 l2 l3 _ hT2 _ τ2 sa9 _ _ => ?_)
        have ex : x' = x := by omega
        have ey : y' = y := by omega
        have ez : z' = z := by omega
        subst ex ey ez
        obtain ⟨rfl, rfl⟩ := same n' T' hT2
        rw [hv]
        exact ⟨fun y9 => absurd y9 e, fun _ => ⟨ho_upE, Inv_sc hj hI0 (sm_up sa9 rfl)⟩⟩
      · have w1 : ho_oadd (ho_omul (3 * (x : Int) + (y : Int)) 8) (z : Int) = ((8 * (3 * x + y) + z : Nat) : Int) := by
          rw [wmu (by omega) (by omega), wad (by omega) (by omega)]; omega
        rw [w1]
        clear w1
        refine sp_item.mpr ?_
        refine sp_store.mpr ?_
        rw [gi27 (by omega), si27 (by omega)]
        have e27 : σ1 27 = σ 27 := sm_fn s1 27 (fun _ => rfl)
        rw [e27, h10 _ (by omega)]
        obtain ⟨σb, hσb⟩ : ∃ σb, σb = ho_up σ1 27 (8 * (3 * x + y) + z) w := ⟨_, rfl⟩
        rw [← hσb]
        have sb : sm p27 σ σb := by rw [hσb]; exact sm_up (sm_w s1 p27_sc) rfl
        have b27 : ∀ i, σb 27 i = if i = 8 * (3 * x + y) + z then w else σ 27 i := fun i => by rw [hσb, ho_upA, e27]
        clear hσb
        refine tau (fun τ sτ τ54 eτ => ?_)
        have sτ' : sm p27 σ τ := sm_tr sb (sm_w sτ p27_sc)
        refine mq_letGo (GS_sm h1 sb ⟨rfl, rfl, rfl, rfl, rfl, rfl⟩) (GF_sm h2 sb (fun _ => ⟨rfl, rfl, rfl, rfl⟩)) (GT_sm h6 sb (fun _ => ⟨rfl, rfl, rfl, rfl, rfl, rfl, rfl⟩)) (GX_sm h8 sb (fun _ => ⟨rfl, rfl, rfl, rfl, rfl, rfl⟩)) (GW_sm h13 sb ⟨rfl, rfl, rfl, rfl⟩) _ τ sτ (fun y9 => absurd ok y9) (fun _ y9 => absurd nm y9) (fun x' y' z' n' T' e1 e2 e3 l1 l2 l3 _ hT2 _ τ2 sa9 sb9 c54 => ?_)
        have ex : x' = x := by omega
        have ey : y' = y := by omega
        have ez : z' = z := by omega
        subst ex ey ez
        obtain ⟨rfl, rfl⟩ := same n' T' (by
          unfold TXT at hT2 ⊢
          rw [sm_fn sb 18 (fun _ => rfl), sm_fn sb 19 (fun _ => rfl)] at hT2
          exact hT2)
        rw [sm_fn sb 37 (fun _ => rfl), sm_fn sb 38 (fun _ => rfl), sm_fn sb 36 (fun _ => rfl), sm_fn sb 44 (fun _ => rfl), sm_fn sb 34 (fun _ => rfl), sm_fn sb 43 (fun _ => rfl), sb 30 25 rfl, sb 30 26 rfl, hv]
        have s2 : sm p27 σ τ2 := sm_tr sτ' (sm_w sb9 p27_sc)
        refine ⟨fun _ => ⟨?_, ?_, Inv_nk hj hI0 (sm_up (sm_up (sm_w s2 pNk_27) rfl) rfl) ?_ ?_⟩, fun y9 => absurd e y9⟩
        · show ho_up τ2 30 0 0 30 0 = 0
          exact ho_upE
        · show τ2 54 0 = _
          rw [c54]; exact τ54
        · intro i hi
          rw [ho_upA]
          show τ2 27 i = if i = 8 * (3 * x' + y') + z' then w else τ2 44 i
          rw [sm_fn sb9 27 (fun _ => rfl), sm_fn sτ 27 (fun _ => rfl), b27, sm_fn s2 44 (fun _ => rfl), h10 i hi]
        · show ∀ c, c < 16 → τ2 26 c = τ2 36 c ∧ 0 ≤ τ2 36 c ∧ τ2 36 c ≤ 3
          rw [sm_fn s2 26 (fun _ => rfl), sm_fn s2 36 (fun _ => rfl)]
          exact h7
    · rw [if_neg cr]
      exact Or.inl ⟨by trivial, t1 σ sm_rf (fun z => cr (by omega))⟩
  · rw [if_neg cc]
    exact Or.inl ⟨by trivial, t1 σ sm_rf (fun z => cc z.1)⟩
