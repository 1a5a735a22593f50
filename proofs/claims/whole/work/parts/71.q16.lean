theorem pFm_lt {k j : Nat} (h : k < 30) : pFm k j = false := by
  have z : ∀ x, 30 ≤ x → Nat.beq k x = false := fun x hx => by
    cases q : Nat.beq k x
    · rfl
    · have := Nat.eq_of_beq_eq_true q; omega
  unfold pFm pGt
  rw [z 41 (by omega), z 42 (by omega), z 43 (by omega), z 44 (by omega), z 50 (by omega), z 30 (by omega)]
  rfl
theorem pFc_ge {mo u O k j : Nat} (hm : MOK mo u O) (h : 30 ≤ k) : pFc mo u k j = false := by
  have z : ∀ x, x < 30 → Nat.beq k x = false := fun x hx => by
    cases q : Nat.beq k x
    · rfl
    · have := Nat.eq_of_beq_eq_true q; omega
  unfold MOK at hm
  unfold pFc pMm
  rw [z 18 (by omega), z 19 (by omega), z mo (by omega), z u (by omega), z 27 (by omega), z 28 (by omega)]
  rfl
theorem pMem_fc {mo u O : Nat} (hm : MOK mo u O) : ∀ k j, pFc mo u k j = true → pMem k j = true := fun k j z => by
  cases a : pMm mo u k j
  · unfold pFc at z
    rw [a] at z
    unfold pMem
    cases b : pSc k j <;> cases b1 : Nat.beq k 27 <;> cases b2 : Nat.beq k 28 <;> simp [b1, b2] at z ⊢
  · exact pMem_mm hm k j a
theorem pMem_fm : ∀ k j, pFm k j = true → pMem k j = true := fun k j z => by
  cases a : Nat.beq k 30 && Nat.beq j 0
  · unfold pFm pGt at z
    rw [a] at z
    unfold pMem
    cases b : pSc k j <;> cases b1 : Nat.beq k 41 <;> cases b2 : Nat.beq k 42 <;> cases b3 : Nat.beq k 43 <;> cases b4 : Nat.beq k 44 <;> cases b5 : Nat.beq k 50 <;> simp [b1, b2, b3, b4, b5] at z ⊢
    simp [z]
  · have h := Bool.and_eq_true_iff.mp a
    have h1 := Nat.eq_of_beq_eq_true h.1
    have h2 := Nat.eq_of_beq_eq_true h.2
    subst h1 h2
    rfl

theorem fill_core {j m mo u O m' mo' u' O' t M : Nat} {σ : ho_S} {X : ho_X} (hj : j < 512) (hI : hi_Inv j σ) (m11 : σ 0 11 = (M : Int)) (m8 : σ 30 8 = (M : Int)) (hM : M ≤ 16) (ht1 : 1 ≤ t) (ht3 : t < 3) (hmt : t = m + 1) (hmo4 : mo = m + 4) (h8 : GX σ) (h9 : GB j σ) (h10 : GN σ) (hG : GM j m mo u O σ) (hG' : GM j m' mo' u' O' σ) (hm : MOK mo u O) (hm' : MOK mo' u' O') (hmo : mo ≠ mo') (hm1 : m' < 2) (hmm : m ≠ m') (fin : ∀ υ, GM (j + 1) m mo u O υ → GM (j + 1) m' mo' u' O' υ → GM (j + 1) 0 4 20 48 υ ∧ GM (j + 1) 1 5 21 64 υ) :
    mX6_fill [0, (t : Int)] σ (fun a σ => mX7_fill [30, (t : Int)] (ho_up σ 54 0 a) (fun b σ => σ 30 0 = 0 ∧ σ 54 0 = b ∧ hi_Inv (j + 1) σ) (fun _ _ => False)) X := by
  have hm2 : m < 2 := by omega
  obtain ⟨K, E, a1, a2, a3, a4, a5, a6, a7⟩ := hG
  have ch := h9.2.2
  have ok := fun (H : Nat → Prop) (Y : Nat → TV) => fE_ok (K := K) (H := H) (Y := Y) (E := E) (c := M) a2 a7
  obtain ⟨H, hHd⟩ : ∃ H : Nat → Prop, ∀ c, H c ↔ (σ 19 (3 * c + t) = 0 ∨ σ 28 (3 * c + t) ≠ 0) := ⟨_, fun c => Iff.rfl⟩
  obtain ⟨Y, hYd⟩ : ∃ Y : Nat → TV, ∀ c, Y c = tv (σ 18) (σ 19) (3 * c) := ⟨_, fun c => rfl⟩
  refine fill_c (H := H) (Y := Y) hm ht1 ht3 (by omega) m11 hM a3 a1 a2 a7 h8.1 rfl a5 (by omega) (fun c _ => hHd c) (fun c _ => hYd c) (fun σ1 s1 C1 ck1 u1 old1 u28 u27 => ?_)
  have mk : ∀ k, 30 ≤ k → σ1 k = σ k := fun k hk => sm_fn s1 k (fun _ => pFc_ge hm hk)
  refine tau (fun τ sτ τ54 eτ => ?_)
  have q : ∀ k, 30 ≤ k → k ≠ 54 → τ k = σ k := fun k h1 h2 => by rw [eτ k h2, mk k h1]
  have q30 := q 30 (by omega) (by omega)
  have q41 := q 41 (by omega) (by omega)
  have q42 := q 42 (by omega) (by omega)
  have q43 := q 43 (by omega) (by omega)
  have q44 := q 44 (by omega) (by omega)
  have C0 : MM τ m K E := by
    unfold MM
    rw [q 45 (by omega) (by omega), q 46 (by omega) (by omega), q 47 (by omega) (by omega), q 48 (by omega) (by omega), q 49 (by omega) (by omega), q 50 (by omega) (by omega), q30]
    exact a4
  have zz : SZM τ := by
    unfold SZM
    rw [q41, q 46 (by omega) (by omega), q 48 (by omega) (by omega)]
    exact h8.2.1
  refine fill_m (H := H) (Y := Y) (m := m) (E := E) (K := K) hm2 hmt (by rw [q30]; exact m8) hM C0 a1 a2 a7 zz (by rw [q30]; omega) (by rw [q30]; omega) (fun c hc => ?_) (fun c hc => ?_) (fun x hx => ?_) (fun υ s2 r0 C2 z2 ck2 v1 v43 v44 v50 => ?_)
  · rw [hHd, q41, q43, show σ 19 (3 * c + t) = σ 41 (3 * c + t) from congrArg Prod.fst (h8.2.2.1 (3 * c + t) (by omega)), (h9.1 c (by omega)).2 t ht1 ht3]
  · rw [hYd, q41, q42]
    exact h8.2.2.1 (3 * c) (by omega)
  · rw [q43, q30]; exact h9.2.1 x hx
  rw [q41, q42] at v1
  rw [q43, q30] at v43
  rw [q44] at v44
  rw [q30] at ck2
  have ok := ok H Y
  have sU : sm pMem σ υ := sm_tr (sm_w s1 (pMem_fc hm)) (sm_tr (sm_w sτ pMem_sc) (sm_w s2 pMem_fm))
  have cl : ∀ k, k < 30 → υ k = σ1 k := fun k a => by rw [sm_fn s2 k (fun _ => pFm_lt a), eτ k (by omega)]
  have c18 := cl 18 (by omega)
  have c19 := cl 19 (by omega)
  have c28 := cl 28 (by omega)
  have c27 := cl 27 (by omega)
  have hmk : mo < 30 ∧ u < 30 ∧ 48 ≤ O ∧ O ≤ 64 := by unfold MOK at hm; omega
  have hmk' : mo' < 30 ∧ u' < 30 ∧ 48 ≤ O' ∧ O' ≤ 64 := by unfold MOK at hm'; omega
  have umo := cl mo hmk.1
  have uu := cl u hmk.2.1
  refine ⟨r0, (s2 54 0 rfl).trans τ54, ?_⟩
  have key := fin υ ?_ ?_
  · refine Inv_mm hj hI sU ⟨?_, z2, fun x hx => ?_, fun x hx i => ?_⟩ ⟨fun c' hc' => ⟨?_, fun t' b1 b2 => ?_⟩, fun x hx => ?_, ?_, ?_⟩ ?_ key.1 key.2
    · unfold SZ
      rw [c19]
      exact SZ_old h8.1 old1
    · rw [c18, c19]
      by_cases w : Wf (fH K H Y E) t M x
      · exact ((u1 x (by omega)).1 w).trans ((v1 x hx).1 w).symm
      · exact ((u1 x (by omega)).2 w).trans ((h8.2.2.1 x hx).trans ((v1 x hx).2 w).symm)
    · obtain ⟨w, hw, e⟩ := old1 x hx
      rw [c18, c19, show tx (σ1 18) (σ1 19) x = tx (σ 18) (σ 19) w from congrArg Prod.snd e]
      exact h8.2.2.2 w hw i
    · rw [c28]
      exact ((u28 (3 * c') (by omega)).2 (Wf_org ht1 ht3)).trans (h9.1 c' hc').1
    · have g := (h9.1 c' hc').2 t' b1 b2
      have g2 := h9.2.1 (3 * c') (by omega)
      have g3 := (v43 (3 * c') (by omega)).2 (Wf_org ht1 ht3)
      rw [c28, g3]
      by_cases w : Wf (fH K H Y E) t M (3 * c' + t')
      · have g4 := (v43 (3 * c' + t') (by omega)).1 w
        rw [(u28 (3 * c' + t') (by omega)).1 w]
        exact ⟨fun z => absurd rfl z, fun z => by omega⟩
      · rw [(u28 (3 * c' + t') (by omega)).2 w, (v43 (3 * c' + t') (by omega)).2 w]
        exact g
    · by_cases w : Wf (fH K H Y E) t M x
      · exact ((v43 x hx).1 w).2
      · rw [(v43 x hx).2 w]
        have := h9.2.1 x hx
        omega
    · omega
    · omega
    · intro i hi
      rw [c27]
      by_cases w : Wf (fH K H Y E) t M (i / 8)
      · exact ((u27 i hi).1 w).trans ((v44 i hi).1 w).symm
      · exact ((u27 i hi).2 w).trans ((h10 i hi).trans ((v44 i hi).2 w).symm)
  · refine ⟨K, fE K H Y E M, a1, ok.1, ?_, C2, ?_, ?_, ok.2⟩
    · unfold CM
      rw [umo, uu, c18, c19]
      exact C1
    · rw [umo]; omega
    · rw [umo]; omega
  · refine GM_of hG' hmk'.2.2.2 hm1 (fun x => ?_) (fun x => ?_) (fun x b1 b2 => ?_) ?_ (fun r hr => ⟨?_, ?_, ?_⟩) (by omega)
    · rw [cl mo' hmk'.1]
      refine s1 mo' x ?_
      rcases hm with ⟨rfl, rfl, rfl⟩ | ⟨rfl, rfl, rfl⟩ <;> rcases hm' with ⟨rfl, rfl, rfl⟩ | ⟨rfl, rfl, rfl⟩ <;> first | rfl | exact absurd rfl hmo
    · rw [cl u' hmk'.2.1]
      refine s1 u' x ?_
      rcases hm with ⟨rfl, rfl, rfl⟩ | ⟨rfl, rfl, rfl⟩ <;> rcases hm' with ⟨rfl, rfl, rfl⟩ | ⟨rfl, rfl, rfl⟩ <;> first | rfl | exact absurd rfl hmo
    · rw [c18, c19]
      exact (u1 x (by omega)).2 (fun w => by have : x < 3 * M := Wf_lt ht3 w; omega)
    · rw [s2 45 m' rfl, q 45 (by omega) (by omega)]
    · rw [sm_fn s2 46 (fun _ => rfl), sm_fn s2 47 (fun _ => rfl), q 46 (by omega) (by omega), q 47 (by omega) (by omega)]
    · rw [sm_fn s2 48 (fun _ => rfl), sm_fn s2 49 (fun _ => rfl), q 48 (by omega) (by omega), q 49 (by omega) (by omega)]
    · rw [v50 (9 * m' + r) (by omega), q 50 (by omega) (by omega)]

theorem op_fill {j : Nat} {σ : ho_S} {t : Int} (hj : j < 512) (hI : hi_Inv j σ) : mX6_fill [0, t] σ (fun a σ => mX7_fill [30, t] (ho_up σ 54 0 a) (fun b σ => σ 30 0 = 0 ∧ σ 54 0 = b ∧ hi_Inv (j + 1) σ) (fun _ _ => False)) (fun ec σ => (ec = 2 ∧ mX7_fill [30, t] σ (fun _ σ => σ 30 0 = 1 ∧ hi_Inv (j + 1) σ) (fun _ _ => False))) := by
  have hI0 := hI
  obtain ⟨_, S, N, M, h1, h2, h3, h4, h5, h6, h7, h8, h9, h10, h11, h12, h13⟩ := hI
  have hM := h1.2.2.2.2.2.2
  have hN : N ≤ 4800 := by have := h2.1; have := h2.2.1; omega
  by_cases ct : 1 ≤ t ∧ t < 3
  · obtain ⟨t, rfl⟩ : ∃ y : Nat, t = (y : Int) := ⟨t.toNat, by omega⟩
    have tt : t = 1 ∨ t = 2 := by omega
    rcases tt with rfl | rfl
    · exact fill_core (m := 0) (mo := 4) (u := 20) (O := 48) (m' := 1) (mo' := 5) (u' := 21) (O' := 64) hj hI0 h1.2.2.2.2.1 h1.2.2.2.2.2.1 hM (by omega) (by omega) rfl rfl h8 h9 h10 h11 h12 (Or.inl ⟨rfl, rfl, rfl⟩) (Or.inr ⟨rfl, rfl, rfl⟩) (by omega) (by omega) (by omega) (fun υ x y => ⟨x, y⟩)
    · exact fill_core (m := 1) (mo := 5) (u := 21) (O := 64) (m' := 0) (mo' := 4) (u' := 20) (O' := 48) hj hI0 h1.2.2.2.2.1 h1.2.2.2.2.2.1 hM (by omega) (by omega) rfl rfl h8 h9 h10 h12 h11 (Or.inr ⟨rfl, rfl, rfl⟩) (Or.inl ⟨rfl, rfl, rfl⟩) (by omega) (by omega) (by omega) (fun υ x y => ⟨y, x⟩)
  · simp only [mX6_fill, fX6_fill, u_eC, u_eV, u_eF, u_eR, u_eI, u_eL, u_eB, u_eD, u_eM, u_eU, u_aN, u_aC, u_eK, u_eT, u_cLt, u_cLe, u_cGt, u_cGe, u_cEq, u_cNe, u_cAnd, u_cOr, u_cNot, u_zN, u_zS, u_zD, u_zL, u_zI, u_zB, u_zP, u_zF, u_zA, u_zU, u_zC, u_zR, u_zRZ, u_zRC, u_zRV, u_zT, u_zE, u_zK, u_zY, ho_nid, List.getD_cons_zero, List.getD_cons_succ, List.set_cons_zero, List.set_cons_succ, List.cons_append, List.nil_append, List.take_succ_cons, List.take_zero, Int.reduceToNat, Int.toNat_natCast, nN_0, nN_1, nN_2, nN_3, nN_4, nN_5, nN_6, nN_7, nN_8, nN_9, nN_10, nN_11, nN_12, nN_13, nN_14, nN_15, nN_16, nN_17, nN_18, nN_19, nN_20, nN_21, nN_22, nN_23, nN_24, nN_25, nN_26, nN_27, nN_28, nN_29, nN_30, nN_31, nN_32, nN_33, nN_34, nN_35, nN_36, nN_37, nN_38, nN_39, nN_40, nN_41, nN_42, nN_43, nN_44, nN_45, nN_46, nN_47, nN_48, nN_49, nN_50, nN_51, nN_52, nN_53, nN_54, nR_0_0, nR_0_1, nR_0_2, nR_0_3, nR_0_4, nR_0_5, nR_0_6, nR_0_7, nR_0_8, nR_0_9, nR_0_10, nR_1_0, nR_1_1, nR_1_2, nR_1_3, nR_1_4, nR_2_0, nR_2_1, nR_2_2, nR_2_3, nR_2_4, nR_3_0, nR_3_1, nR_4_2, nR_5_2, nR_6_0, nR_6_1, nR_6_2, nR_7_0, nR_30_2, nR_30_3, nR_30_4, nR_30_6, nR_30_7, nR_30_9, nR_30_10, nR_30_11, nR_30_12, nR_30_13, nR_30_14, nR_30_15, nR_30_16, nR_30_18, nR_30_19, nR_30_20, nR_30_21, nR_30_22, nR_30_23, nR_30_24, nR_30_28, nR_30_29, nR_30_31, sp_needMadeTongue, if_neg ct, true_and]
    simp only [mX7_fill, fX7_fill, u_eC, u_eV, u_eF, u_eR, u_eI, u_eL, u_eB, u_eD, u_eM, u_eU, u_aN, u_aC, u_eK, u_eT, u_cLt, u_cLe, u_cGt, u_cGe, u_cEq, u_cNe, u_cAnd, u_cOr, u_cNot, u_zN, u_zS, u_zD, u_zL, u_zI, u_zB, u_zP, u_zF, u_zA, u_zU, u_zC, u_zR, u_zRZ, u_zRC, u_zRV, u_zT, u_zE, u_zK, u_zY, ho_nid, List.getD_cons_zero, List.getD_cons_succ, List.set_cons_zero, List.set_cons_succ, List.cons_append, List.nil_append, List.take_succ_cons, List.take_zero, Int.reduceToNat, Int.toNat_natCast, nN_0, nN_1, nN_2, nN_3, nN_4, nN_5, nN_6, nN_7, nN_8, nN_9, nN_10, nN_11, nN_12, nN_13, nN_14, nN_15, nN_16, nN_17, nN_18, nN_19, nN_20, nN_21, nN_22, nN_23, nN_24, nN_25, nN_26, nN_27, nN_28, nN_29, nN_30, nN_31, nN_32, nN_33, nN_34, nN_35, nN_36, nN_37, nN_38, nN_39, nN_40, nN_41, nN_42, nN_43, nN_44, nN_45, nN_46, nN_47, nN_48, nN_49, nN_50, nN_51, nN_52, nN_53, nN_54, nR_0_0, nR_0_1, nR_0_2, nR_0_3, nR_0_4, nR_0_5, nR_0_6, nR_0_7, nR_0_8, nR_0_9, nR_0_10, nR_1_0, nR_1_1, nR_1_2, nR_1_3, nR_1_4, nR_2_0, nR_2_1, nR_2_2, nR_2_3, nR_2_4, nR_3_0, nR_3_1, nR_4_2, nR_5_2, nR_6_0, nR_6_1, nR_6_2, nR_7_0, nR_30_2, nR_30_3, nR_30_4, nR_30_6, nR_30_7, nR_30_9, nR_30_10, nR_30_11, nR_30_12, nR_30_13, nR_30_14, nR_30_15, nR_30_16, nR_30_18, nR_30_19, nR_30_20, nR_30_21, nR_30_22, nR_30_23, nR_30_24, nR_30_28, nR_30_29, nR_30_31, sp_in, zlt, zle, zl1, zl2, zl3, z1l, z2l, z3l, z1e, z2e, z3e, z1n, z2n, z3n, z0n, z0e, true_implies, false_implies, and_true, true_and, ho_upE, bI_ne, bI_eq, true_or, or_true]
    refine ⟨fun w => absurd (show 1 ≤ t ∧ t < 3 by omega) ct, fun _ => ?_⟩
    refine zW_rule (fun v σ' z => v = [30, t, 0, 0] ∧ σ' = ho_up σ 30 0 1) 0 ⟨rfl, rfl⟩ ?_
    rintro v σ' z ⟨rfl, rfl⟩ KK KE hKK hKE
    simp only [u_eC, u_eV, u_eF, u_eR, u_eI, u_eL, u_eB, u_eD, u_eM, u_eU, u_aN, u_aC, u_eK, u_eT, u_cLt, u_cLe, u_cGt, u_cGe, u_cEq, u_cNe, u_cAnd, u_cOr, u_cNot, u_zN, u_zS, u_zD, u_zL, u_zI, u_zB, u_zP, u_zF, u_zA, u_zU, u_zC, u_zR, u_zRZ, u_zRC, u_zRV, u_zT, u_zE, u_zK, u_zY, ho_nid, List.getD_cons_zero, List.getD_cons_succ, List.set_cons_zero, List.set_cons_succ, List.cons_append, List.nil_append, List.take_succ_cons, List.take_zero, Int.reduceToNat, Int.toNat_natCast, nN_0, nN_1, nN_2, nN_3, nN_4, nN_5, nN_6, nN_7, nN_8, nN_9, nN_10, nN_11, nN_12, nN_13, nN_14, nN_15, nN_16, nN_17, nN_18, nN_19, nN_20, nN_21, nN_22, nN_23, nN_24, nN_25, nN_26, nN_27, nN_28, nN_29, nN_30, nN_31, nN_32, nN_33, nN_34, nN_35, nN_36, nN_37, nN_38, nN_39, nN_40, nN_41, nN_42, nN_43, nN_44, nN_45, nN_46, nN_47, nN_48, nN_49, nN_50, nN_51, nN_52, nN_53, nN_54, nR_0_0, nR_0_1, nR_0_2, nR_0_3, nR_0_4, nR_0_5, nR_0_6, nR_0_7, nR_0_8, nR_0_9, nR_0_10, nR_1_0, nR_1_1, nR_1_2, nR_1_3, nR_1_4, nR_2_0, nR_2_1, nR_2_2, nR_2_3, nR_2_4, nR_3_0, nR_3_1, nR_4_2, nR_5_2, nR_6_0, nR_6_1, nR_6_2, nR_7_0, nR_30_2, nR_30_3, nR_30_4, nR_30_6, nR_30_7, nR_30_9, nR_30_10, nR_30_11, nR_30_12, nR_30_13, nR_30_14, nR_30_15, nR_30_16, nR_30_18, nR_30_19, nR_30_20, nR_30_21, nR_30_22, nR_30_23, nR_30_24, nR_30_28, nR_30_29, nR_30_31, ho_upE]
    exact ⟨fun _ => ⟨fun w => absurd w (by decide), fun _ => hKE _ ⟨ho_upE, Inv_sc hj hI0 (sm_up sm_rf rfl)⟩⟩, fun _ => hKE _ ⟨ho_upE, Inv_sc hj hI0 (sm_up sm_rf rfl)⟩⟩
