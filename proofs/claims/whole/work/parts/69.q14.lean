def pMem (k j : Nat) : Bool := pSc k j || (Nat.beq k 18 || (Nat.beq k 19 || (Nat.beq k 4 || (Nat.beq k 5 || (Nat.beq k 20 || (Nat.beq k 21 || (Nat.beq k 27 || (Nat.beq k 28 || (Nat.beq k 41 || (Nat.beq k 42 || (Nat.beq k 43 || (Nat.beq k 44 || (Nat.beq k 45 || (Nat.beq k 46 || (Nat.beq k 47 || (Nat.beq k 48 || (Nat.beq k 49 || (Nat.beq k 50 || (Nat.beq k 30 && Nat.beq j 17)))))))))))))))))))
theorem pMem_sc : ∀ k j, pSc k j = true → pMem k j = true := fun k j z => by unfold pMem; rw [z]; rfl
theorem Inv_mm {σ υ : ho_S} {j : Nat} (hj : j < 512) (h : hi_Inv j σ) (s : sm pMem σ υ) (x8 : GX υ) (x9 : GB (j + 1) υ) (x10 : GN υ) (x11 : GM (j + 1) 0 4 20 48 υ) (x12 : GM (j + 1) 1 5 21 64 υ) : hi_Inv (j + 1) υ := by
  obtain ⟨_, S, N, M, h1, h2, h3, h4, h5, h6, h7, h8, h9, h10, h11, h12, h13⟩ := h
  exact ⟨by omega, S, N, M, GS_sm h1 s ⟨rfl, rfl, rfl, rfl, rfl, rfl⟩, GF_sm h2 s (fun _ => ⟨rfl, rfl, rfl, rfl⟩), GPc_sm h3 s (fun _ => ⟨rfl, rfl, rfl⟩), GPm_sm h4 s (fun _ => ⟨rfl, rfl, rfl⟩), GL_sm h5 s (fun _ => ⟨rfl, rfl⟩), GT_sm h6 s (fun _ => ⟨rfl, rfl, rfl, rfl, rfl, rfl, rfl⟩), GK_sm h7 s (fun _ => ⟨rfl, rfl⟩), x8, x9, x10, x11, x12, GW_sm h13 s ⟨rfl, rfl, rfl, rfl⟩⟩

theorem NE_psh {E : Nat → TV × TV} {K K' i : Nat} {z : TV × TV} (h : NE E K) (hi : (i < K ∧ K' = K) ∨ (i = K ∧ K' = K + 1)) (hz : z.1.1 ≠ 0) : NE (psh i E K' z) K' := by
  intro j hj
  by_cases q : j + 1 < K'
  · by_cases r : j < i
    · rw [psh_l q r]; exact h j (by omega)
    · rw [psh_m q r]; exact h (j + 1) (by omega)
  · rw [psh_z q]; exact hz
theorem KEEP_ne {K K' : Nat} {E E' : Nat → TV × TV} {x y : TV} (hn : NE E K) (hx : x.1 ≠ 0) (h : KEEP K E x y K' E') : NE E' K' := by
  rcases h with ⟨i, a1, a2, rfl, rfl⟩ | ⟨a1, a2, rfl, rfl⟩ | ⟨a1, rfl, rfl, rfl⟩
  · exact NE_psh hn (Or.inl ⟨a1, rfl⟩) hx
  · exact NE_psh hn (Or.inr ⟨rfl, rfl⟩) hx
  · exact NE_psh hn (Or.inl ⟨by omega, rfl⟩) hx
theorem pMk_lt {k j : Nat} (h : k < 30) : pMk k j = false := by
  have z : ∀ x, 30 ≤ x → Nat.beq k x = false := fun x hx => by
    cases q : Nat.beq k x
    · rfl
    · have := Nat.eq_of_beq_eq_true q; omega
  unfold pMk
  rw [z 45 (by omega), z 46 (by omega), z 47 (by omega), z 48 (by omega), z 49 (by omega), z 50 (by omega), z 30 (by omega)]
  rfl
theorem pMem_mk : ∀ k j, pMk k j = true → pMem k j = true := fun k j z => by
  unfold pMk at z
  unfold pMem
  cases a : pSc k j <;> cases b1 : Nat.beq k 45 <;> cases b2 : Nat.beq k 46 <;> cases b3 : Nat.beq k 47 <;> cases b4 : Nat.beq k 48 <;> cases b5 : Nat.beq k 49 <;> cases b6 : Nat.beq k 50 <;> simp [b1, b2, b3, b4, b5, b6] at z ⊢
  simp [z]
theorem pMem_mm {mo u O : Nat} (hm : MOK mo u O) : ∀ k j, pMm mo u k j = true → pMem k j = true := fun k j z => by
  unfold pMm at z
  unfold pMem
  rcases hm with ⟨rfl, rfl, rfl⟩ | ⟨rfl, rfl, rfl⟩ <;> cases a : pSc k j <;> cases b1 : Nat.beq k 18 <;> cases b2 : Nat.beq k 19 <;> simp [b1, b2] at z ⊢
  · rcases z with z | z <;> simp [z]
  · rcases z with z | z <;> simp [z]

theorem conf_core {j m mo u O m' mo' u' O' c t M : Nat} {σ : ho_S} {X : ho_X} (hj : j < 512) (hI : hi_Inv j σ) (m8 : σ 30 8 = (M : Int)) (hM : M ≤ 16) (hcM : c < M) (ht1 : 1 ≤ t) (ht3 : t < 3) (hmt : t = m + 1) (n0 : σ 41 (3 * c) ≠ 0) (n1 : σ 41 (3 * c + t) ≠ 0) (h8 : GX σ) (h9 : GB j σ) (h10 : GN σ) (hG : GM j m mo u O σ) (hG' : GM j m' mo' u' O' σ) (hm : MOK mo u O) (hm' : MOK mo' u' O') (hmo : mo ≠ mo') (hm1 : m' < 2) (hmm : m ≠ m') (fin : ∀ υ, GM (j + 1) m mo u O υ → GM (j + 1) m' mo' u' O' υ → GM (j + 1) 0 4 20 48 υ ∧ GM (j + 1) 1 5 21 64 υ) :
    mX2_keep [(mo : Int), 3, ((3 * c : Nat) : Int), ((3 * c + t : Nat) : Int)] σ (fun _ σ => mX6_setBehind [0, ((3 * c + t : Nat) : Int), 0] σ (fun _ σ => mX2_count [(mo : Int)] σ (fun a σ => mX7_confirm [30, (c : Int), (t : Int)] (ho_up σ 54 0 a) (fun b σ => σ 30 0 = 0 ∧ σ 54 0 = b ∧ hi_Inv (j + 1) σ) (fun _ _ => False)) X) X) X := by
  have hm2 : m < 2 := by omega
  obtain ⟨K, E, a1, a2, a3, a4, a5, a6, a7⟩ := hG
  have ch := h9.2.2
  refine sp_mkeep hm a3 a1 (by omega) (by omega) h8.1 rfl a5 (by omega) (fun K' E' kp σ1 s1 C1 ck1 t1 old1 => ?_)
  refine (sp_setBehind (by omega)).mpr ?_
  simp only [mX2_count, fX2_count, u_eC, u_eV, u_eF, u_eR, u_eI, u_eL, u_eB, u_eD, u_eM, u_eU, u_aN, u_aC, u_eK, u_eT, u_cLt, u_cLe, u_cGt, u_cGe, u_cEq, u_cNe, u_cAnd, u_cOr, u_cNot, u_zN, u_zS, u_zD, u_zL, u_zI, u_zB, u_zP, u_zF, u_zA, u_zU, u_zC, u_zR, u_zRZ, u_zRC, u_zRV, u_zT, u_zE, u_zK, u_zY, ho_nid, List.getD_cons_zero, List.getD_cons_succ, List.set_cons_zero, List.set_cons_succ, List.cons_append, List.nil_append, List.take_succ_cons, List.take_zero, Int.reduceToNat, Int.toNat_natCast, nN_0, nN_1, nN_2, nN_3, nN_4, nN_5, nN_6, nN_7, nN_8, nN_9, nN_10, nN_11, nN_12, nN_13, nN_14, nN_15, nN_16, nN_17, nN_18, nN_19, nN_20, nN_21, nN_22, nN_23, nN_24, nN_25, nN_26, nN_27, nN_28, nN_29, nN_30, nN_31, nN_32, nN_33, nN_34, nN_35, nN_36, nN_37, nN_38, nN_39, nN_40, nN_41, nN_42, nN_43, nN_44, nN_45, nN_46, nN_47, nN_48, nN_49, nN_50, nN_51, nN_52, nN_53, nN_54, nR_0_0, nR_0_1, nR_0_2, nR_0_3, nR_0_4, nR_0_5, nR_0_6, nR_0_7, nR_0_8, nR_0_9, nR_0_10, nR_1_0, nR_1_1, nR_1_2, nR_1_3, nR_1_4, nR_2_0, nR_2_1, nR_2_2, nR_2_3, nR_2_4, nR_3_0, nR_3_1, nR_4_2, nR_5_2, nR_6_0, nR_6_1, nR_6_2, nR_7_0, nR_30_2, nR_30_3, nR_30_4, nR_30_6, nR_30_7, nR_30_9, nR_30_10, nR_30_11, nR_30_12, nR_30_13, nR_30_14, nR_30_15, nR_30_16, nR_30_18, nR_30_19, nR_30_20, nR_30_21, nR_30_22, nR_30_23, nR_30_24, nR_30_28, nR_30_29, nR_30_31]
  have mk : ∀ k, 30 ≤ k → σ1 k = σ k := fun k hk => sm_fn s1 k (fun j => by
    have z : ∀ x, x < 30 → Nat.beq k x = false := fun x hx => by
      cases q : Nat.beq k x
      · rfl
      · have := Nat.eq_of_beq_eq_true q; omega
    unfold MOK at hm
    unfold pMm
    rw [z 18 (by omega), z 19 (by omega), z mo (by omega), z u (by omega)]
    rfl)
  have mo28 : mo ≠ 28 := by unfold MOK at hm; omega
  have cnt' : ho_up σ1 28 (3 * c + t) (ho_nz 0) mo 3 = (K' : Int) := by rw [ho_upF mo28]; exact C1.2.2.1
  rw [cnt']
  refine tau (fun τ sτ τ54 eτ => ?_)
  have q : ∀ k, 30 ≤ k → k ≠ 54 → τ k = σ k := fun k h1 h2 => by rw [eτ k h2, ho_upF (show k ≠ 28 by omega), mk k h1]
  have q30 := q 30 (by omega) (by omega)
  have q41 := q 41 (by omega) (by omega)
  have m8' : τ 30 8 = (M : Int) := by rw [q30]; exact m8
  have isc := fun (Q : ho_K) (X : ho_X) => sp_isCaption (σ := τ) (p := (c : Int)) (Q := Q) (X := X) (show 0 ≤ τ 30 8 by rw [m8']; omega) (show τ 30 8 ≤ 16 by rw [m8']; omega)
  rw [m8'] at isc
  simp only [mX7_confirm, fX7_confirm, u_eC, u_eV, u_eF, u_eR, u_eI, u_eL, u_eB, u_eD, u_eM, u_eU, u_aN, u_aC, u_eK, u_eT, u_cLt, u_cLe, u_cGt, u_cGe, u_cEq, u_cNe, u_cAnd, u_cOr, u_cNot, u_zN, u_zS, u_zD, u_zL, u_zI, u_zB, u_zP, u_zF, u_zA, u_zU, u_zC, u_zR, u_zRZ, u_zRC, u_zRV, u_zT, u_zE, u_zK, u_zY, ho_nid, List.getD_cons_zero, List.getD_cons_succ, List.set_cons_zero, List.set_cons_succ, List.cons_append, List.nil_append, List.take_succ_cons, List.take_zero, Int.reduceToNat, Int.toNat_natCast, nN_0, nN_1, nN_2, nN_3, nN_4, nN_5, nN_6, nN_7, nN_8, nN_9, nN_10, nN_11, nN_12, nN_13, nN_14, nN_15, nN_16, nN_17, nN_18, nN_19, nN_20, nN_21, nN_22, nN_23, nN_24, nN_25, nN_26, nN_27, nN_28, nN_29, nN_30, nN_31, nN_32, nN_33, nN_34, nN_35, nN_36, nN_37, nN_38, nN_39, nN_40, nN_41, nN_42, nN_43, nN_44, nN_45, nN_46, nN_47, nN_48, nN_49, nN_50, nN_51, nN_52, nN_53, nN_54, nR_0_0, nR_0_1, nR_0_2, nR_0_3, nR_0_4, nR_0_5, nR_0_6, nR_0_7, nR_0_8, nR_0_9, nR_0_10, nR_1_0, nR_1_1, nR_1_2, nR_1_3, nR_1_4, nR_2_0, nR_2_1, nR_2_2, nR_2_3, nR_2_4, nR_3_0, nR_3_1, nR_4_2, nR_5_2, nR_6_0, nR_6_1, nR_6_2, nR_7_0, nR_30_2, nR_30_3, nR_30_4, nR_30_6, nR_30_7, nR_30_9, nR_30_10, nR_30_11, nR_30_12, nR_30_13, nR_30_14, nR_30_15, nR_30_16, nR_30_18, nR_30_19, nR_30_20, nR_30_21, nR_30_22, nR_30_23, nR_30_24, nR_30_28, nR_30_29, nR_30_31, isc, sp_in, zlt, zle, zl1, zl2, zl3, z1l, z2l, z3l, z1e, z2e, z3e, z1n, z2n, z3n, z0n, z0e, true_implies, false_implies, and_true, true_and, ho_upE, bI_ne, bI_eq, true_or, or_true, (show ho_omul 3 (c : Int) = ((3 * c : Nat) : Int) from by rw [wmu (by omega) (by omega)]; omega), (show ho_oadd ((3 * c : Nat) : Int) (t : Int) = ((3 * c + t : Nat) : Int) from oad (by omega) (by omega)), (show ho_osub (t : Int) 1 = (m : Int) from by rw [wsu (by omega) (by omega)]; omega)]
  simp only [mR_30_2, mR_30_3, mR_30_4, mR_30_6, mR_30_7, mR_30_9, mR_30_10, mR_30_11, mR_30_12, mR_30_13, mR_30_14, mR_30_15, mR_30_16, mR_30_18, mR_30_19, mR_30_20, mR_30_21, mR_30_22, mR_30_23, mR_30_24, mR_30_28, mR_30_29, mR_30_31, mR_0_9, mR_7_0, nN_25, nN_26, nN_27, nN_28, nN_29, nN_30, nN_31, nN_32, nN_33, nN_34, nN_35, nN_36, nN_37, nN_38, nN_39, nN_40, nN_41, nN_42, nN_43, nN_44, nN_45, nN_46, nN_47, nN_48, nN_49, nN_50, nN_51, nN_52, nN_53, nN_54, Int.toNat_natCast, saF, saE, ho_upF, ho_upE, ne_eq, not_false_eq_true, Nat.reduceEqDiff, q41]
  refine ⟨fun _ => ⟨fun _ => ⟨by omega, fun w => absurd w n0, fun _ => ⟨by omega, fun w => absurd w n1, fun _ => ?_⟩⟩, fun w => absurd (show 1 ≤ (t : Int) ∧ (t : Int) ≤ 2 by omega) w⟩, fun w => absurd (show 0 ≤ (c : Int) ∧ (c : Int) < (M : Int) by omega) w⟩
  obtain ⟨τ1, hτ1⟩ : ∃ τ1, τ1 = ho_up (ho_up τ 30 0 0) 30 0 0 := ⟨_, rfl⟩
  have p30 : ∀ i, i ≠ 0 → τ1 30 i = σ 30 i := fun i hi => by rw [hτ1, ho_upJ hi, ho_upJ hi, q30]
  have p0 : τ1 30 0 = 0 := by rw [hτ1, ho_upE]
  have pk : ∀ k, 31 ≤ k → k ≠ 54 → τ1 k = σ k := fun k h1 h2 => by rw [hτ1, ho_upF (show k ≠ 30 by omega), ho_upF (show k ≠ 30 by omega), q k (by omega) h2]
  have pt : ∀ k, k ≠ 30 → τ1 k = τ k := fun k h1 => by rw [hτ1, ho_upF h1, ho_upF h1]
  have sT : sm pMem σ τ1 := by rw [hτ1]; exact sm_up (sm_up (sm_tr (sm_up (sm_w s1 (pMem_mm hm)) rfl) (sm_w sτ pMem_sc)) rfl) rfl
  rw [← hτ1]
  clear hτ1
  have C2 : MM τ1 m K E := by
    unfold MM
    rw [pk 45 (by omega) (by omega), pk 46 (by omega) (by omega), pk 47 (by omega) (by omega), pk 48 (by omega) (by omega), pk 49 (by omega) (by omega), pk 50 (by omega) (by omega), p30 17 (by omega)]
    exact a4
  have zz : SZM τ1 := by
    unfold SZM
    rw [pk 41 (by omega) (by omega), pk 46 (by omega) (by omega), pk 48 (by omega) (by omega)]
    exact h8.2.1
  refine sp_keeps hm2 C2 a1 (by omega) (by omega) zz rfl (by rw [p30 17 (by omega)]; omega) (by rw [p30 17 (by omega)]; omega) (fun K2 E2 kp2 σ2 s2 C3 ch2 row2 k45 z2 => ?_)
  rw [p30 17 (by omega)] at ch2
  rw [pk 42 (by omega) (by omega), pk 41 (by omega) (by omega), ← h8.2.2.1 (3 * c) (by omega), ← h8.2.2.1 (3 * c + t) (by omega)] at kp2
  obtain ⟨rfl, rfl⟩ := KEEP_fun a2 kp kp2
  have kd := KEEP_dist a2 a1 kp
  refine sp_mmarks (by omega) (by omega) (by rw [ch2]; omega) (by rw [ch2]; omega) ?_
  obtain ⟨υ, hυ⟩ : ∃ υ, υ = ho_up (ho_up σ2 30 17 (σ2 30 17 + 1)) 43 (3 * c + t) (σ2 30 17 + 1) := ⟨_, rfl⟩
  have y17 : υ 30 17 = σ 30 17 + 2 := by rw [hυ, ho_upF (show (30 : Nat) ≠ 43 by decide), ho_upE, ch2]; omega
  have y43 : ∀ i, υ 43 i = if i = 3 * c + t then σ 30 17 + 2 else σ 43 i := fun i => by
    rw [hυ]
    by_cases z : i = 3 * c + t
    · rw [if_pos z, z, ho_upE, ch2]; omega
    · rw [if_neg z, ho_upJ z, ho_upF (show (43 : Nat) ≠ 30 by decide), sm_fn s2 43 (fun _ => rfl), pk 43 (by omega) (by omega)]
  have y3 : ∀ i, i ≠ 17 → υ 30 i = σ2 30 i := fun i hi => by rw [hυ, ho_upF (show (30 : Nat) ≠ 43 by decide), ho_upJ hi]
  have yk : ∀ k, k ≠ 30 → k ≠ 43 → υ k = σ2 k := fun k a b => by rw [hυ, ho_upF b, ho_upF a]
  have sU : sm pMem σ υ := by rw [hυ]; exact sm_up (sm_up (sm_tr sT (sm_w s2 pMem_mk)) rfl) rfl
  rw [← hυ]
  clear hυ
  refine ⟨by omega, by rw [y3 0 (by omega), s2 30 0 rfl]; exact p0, ?_, ?_⟩
  · rw [yk 54 (by omega) (by omega), yk 45 (by omega) (by omega), sm_fn s2 54 (fun _ => rfl), pt 54 (by omega)]
    exact τ54.trans C3.1.symm
  have cl : ∀ k, k < 30 → k ≠ 28 → υ k = σ1 k := fun k a b => by rw [yk k (by omega) (by omega), sm_fn s2 k (fun _ => pMk_lt a), pt k (by omega), eτ k (by omega), ho_upF b]
  have c18 := cl 18 (by omega) (by omega)
  have c19 := cl 19 (by omega) (by omega)
  have y28 : ∀ i, υ 28 i = if i = 3 * c + t then 0 else σ 28 i := fun i => by
    rw [yk 28 (by omega) (by omega), sm_fn s2 28 (fun _ => rfl), pt 28 (by omega), eτ 28 (by omega), ho_upA]
    by_cases z : i = 3 * c + t
    · rw [if_pos z, if_pos z]; rfl
    · rw [if_neg z, if_neg z]
      refine s1 28 i ?_
      rcases hm with ⟨rfl, rfl, rfl⟩ | ⟨rfl, rfl, rfl⟩ <;> rfl
  have u41 : υ 41 = σ 41 := by rw [yk 41 (by omega) (by omega), sm_fn s2 41 (fun _ => rfl), pk 41 (by omega) (by omega)]
  have u42 : υ 42 = σ 42 := by rw [yk 42 (by omega) (by omega), sm_fn s2 42 (fun _ => rfl), pk 42 (by omega) (by omega)]
  have u27 : υ 27 = σ 27 := by
    rw [cl 27 (by omega) (by omega)]
    refine sm_fn s1 27 (fun _ => ?_)
    rcases hm with ⟨rfl, rfl, rfl⟩ | ⟨rfl, rfl, rfl⟩ <;> rfl
  have u44 : υ 44 = σ 44 := by rw [yk 44 (by omega) (by omega), sm_fn s2 44 (fun _ => rfl), pk 44 (by omega) (by omega)]
  have s217 : υ 30 17 = σ2 30 17 + 1 := by rw [y17, ch2]; omega
  have umo : υ mo = σ1 mo := cl mo (by unfold MOK at hm; omega) mo28
  have uu : υ u = σ1 u := cl u (by unfold MOK at hm; omega) (by unfold MOK at hm; omega)
  have hO : 48 ≤ O ∧ O ≤ 64 := by unfold MOK at hm; omega
  have hO' : 48 ≤ O' ∧ O' ≤ 64 ∧ (O' + 16 ≤ O ∨ O + 16 ≤ O') := by unfold MOK at hm hm'; omega
  have key := fin υ ?_ ?_
  · refine Inv_mm hj hI sU ⟨?_, ?_, fun x hx => ?_, fun x hx i => ?_⟩ ⟨fun c' hc' => ⟨?_, fun t' b1 b2 => ?_⟩, fun x hx => ?_, ?_, ?_⟩ ?_ key.1 key.2
    · unfold SZ
      rw [c19]
      exact SZ_old h8.1 old1
    · unfold SZM
      rw [yk 41 (by omega) (by omega), yk 46 (by omega) (by omega), yk 48 (by omega) (by omega)]
      exact z2
    · rw [c18, c19, u41, u42, t1 x (by omega) (Or.inl (by omega))]
      exact h8.2.2.1 x hx
    · obtain ⟨w, hw, e⟩ := old1 x hx
      rw [c18, c19, show tx (σ1 18) (σ1 19) x = tx (σ 18) (σ 19) w from congrArg Prod.snd e]
      exact h8.2.2.2 w hw i
    · rw [y28, if_neg (by omega)]
      exact (h9.1 c' hc').1
    · have g := (h9.1 c' hc').2 t' b1 b2
      have g2 := h9.2.1 (3 * c') (by omega)
      rw [y28, y43, y43, if_neg (show ¬ 3 * c' = 3 * c + t by omega)]
      by_cases z : 3 * c' + t' = 3 * c + t
      · rw [if_pos z, if_pos z]
        exact ⟨fun w => absurd rfl w, fun w => by omega⟩
      · rw [if_neg z, if_neg z]; exact g
    · rw [y43, y17]
      have g2 := h9.2.1 x hx
      by_cases z : x = 3 * c + t
      · rw [if_pos z]; omega
      · rw [if_neg z]; omega
    · rw [y17]; omega
    · rw [y17]; omega
    · intro i hi
      rw [u27, u44]
      exact h10 i hi
  · refine ⟨K', E', kd.2, kd.1, ?_, ⟨?_, ?_⟩, ?_, ?_, KEEP_ne a7 ?_ kp⟩
    · unfold CM
      rw [umo, uu, c18, c19]
      exact C1
    · rw [yk 45 (by omega) (by omega)]; exact C3.1
    · rw [yk 46 (by omega) (by omega), yk 47 (by omega) (by omega), yk 48 (by omega) (by omega), yk 49 (by omega) (by omega), yk 50 (by omega) (by omega)]
      exact RF_congr C3.2 (fun _ _ => ⟨rfl, rfl, rfl⟩) (by rw [s217]; omega)
    · rw [umo, ck1]; omega
    · rw [umo, ck1]; omega
    · rw [show (tv (σ 18) (σ 19) (3 * c)).1 = (tv (σ 42) (σ 41) (3 * c)).1 from congrArg Prod.fst (h8.2.2.1 (3 * c) (by omega))]
      exact n0
  · have mo'k : mo' ≠ mo ∧ mo' ≠ u ∧ u' ≠ mo ∧ u' ≠ u ∧ mo' < 18 ∧ (u' = 20 ∨ u' = 21) := by unfold MOK at hm hm'; omega
    refine GM_of hG' hO'.2.1 hm1 (fun x => ?_) (fun x => ?_) (fun x b1 b2 => ?_) ?_ (fun r hr => ?_) (by rw [y17]; omega)
    · rw [cl mo' (by omega) (by omega)]
      refine s1 mo' x ?_
      rcases hm with ⟨rfl, rfl, rfl⟩ | ⟨rfl, rfl, rfl⟩ <;> rcases hm' with ⟨rfl, rfl, rfl⟩ | ⟨rfl, rfl, rfl⟩ <;> first | rfl | exact absurd rfl hmo
    · rw [cl u' (by omega) (by omega)]
      refine s1 u' x ?_
      rcases hm with ⟨rfl, rfl, rfl⟩ | ⟨rfl, rfl, rfl⟩ <;> rcases hm' with ⟨rfl, rfl, rfl⟩ | ⟨rfl, rfl, rfl⟩ <;> first | rfl | exact absurd rfl hmo
    · rw [c18, c19]
      exact t1 x (by omega) (by omega)
    · rw [yk 45 (by omega) (by omega), k45 m' (fun w => hmm w.symm), pk 45 (by omega) (by omega)]
    · have rr := row2 (9 * m' + r) (by omega) (by omega)
      have zr := zz.2 (9 * m' + r) (by omega)
      have rt := rowE_tv rr zr.1.2 zr.2.2
      have r50 := rr.2.2.1
      rw [pk 46 (by omega) (by omega), pk 47 (by omega) (by omega), pk 48 (by omega) (by omega), pk 49 (by omega) (by omega)] at rt
      rw [pk 50 (by omega) (by omega)] at r50
      rw [yk 46 (by omega) (by omega), yk 47 (by omega) (by omega), yk 48 (by omega) (by omega), yk 49 (by omega) (by omega), yk 50 (by omega) (by omega)]
      exact ⟨rt.1, rt.2, r50⟩

theorem op_confirm {j : Nat} {σ : ho_S} {c t : Int} (hj : j < 512) (hI : hi_Inv j σ) : mX6_confirm [0, c, t] σ (fun a σ => mX7_confirm [30, c, t] (ho_up σ 54 0 a) (fun b σ => σ 30 0 = 0 ∧ σ 54 0 = b ∧ hi_Inv (j + 1) σ) (fun _ _ => False)) (fun ec σ => (ec = 2 ∧ mX7_confirm [30, c, t] σ (fun _ σ => σ 30 0 = 1 ∧ hi_Inv (j + 1) σ) (fun _ _ => False)) ∨ (ec = 1 ∧ mX7_confirm [30, c, t] σ (fun _ σ => σ 30 0 = 2 ∧ hi_Inv (j + 1) σ) (fun _ _ => False))) := by
  have hI0 := hI
  obtain ⟨_, S, N, M, h1, h2, h3, h4, h5, h6, h7, h8, h9, h10, h11, h12, h13⟩ := hI
  have hM := h1.2.2.2.2.2.2
  have hN : N ≤ 4800 := by have := h2.1; have := h2.2.1; omega
  have ch := h9.2.2
  have m8 := h1.2.2.2.2.2.1
  have isc := fun (Q : ho_K) (X : ho_X) => sp_isCaption (σ := σ) (p := c) (Q := Q) (X := X) (show 0 ≤ σ 30 8 by rw [m8]; omega) (show σ 30 8 ≤ 16 by rw [m8]; omega)
  rw [m8] at isc
  have thr1 : ¬ ((0 ≤ c ∧ c < (M : Int)) ∧ 1 ≤ t ∧ t ≤ 2) → mX7_confirm [30, c, t] σ (fun _ σ => σ 30 0 = 1 ∧ hi_Inv (j + 1) σ) (fun _ _ => False) := by
    intro z
    simp only [mX7_confirm, fX7_confirm, u_eC, u_eV, u_eF, u_eR, u_eI, u_eL, u_eB, u_eD, u_eM, u_eU, u_aN, u_aC, u_eK, u_eT, u_cLt, u_cLe, u_cGt, u_cGe, u_cEq, u_cNe, u_cAnd, u_cOr, u_cNot, u_zN, u_zS, u_zD, u_zL, u_zI, u_zB, u_zP, u_zF, u_zA, u_zU, u_zC, u_zR, u_zRZ, u_zRC, u_zRV, u_zT, u_zE, u_zK, u_zY, ho_nid, List.getD_cons_zero, List.getD_cons_succ, List.set_cons_zero, List.set_cons_succ, List.cons_append, List.nil_append, List.take_succ_cons, List.take_zero, Int.reduceToNat, Int.toNat_natCast, nN_0, nN_1, nN_2, nN_3, nN_4, nN_5, nN_6, nN_7, nN_8, nN_9, nN_10, nN_11, nN_12, nN_13, nN_14, nN_15, nN_16, nN_17, nN_18, nN_19, nN_20, nN_21, nN_22, nN_23, nN_24, nN_25, nN_26, nN_27, nN_28, nN_29, nN_30, nN_31, nN_32, nN_33, nN_34, nN_35, nN_36, nN_37, nN_38, nN_39, nN_40, nN_41, nN_42, nN_43, nN_44, nN_45, nN_46, nN_47, nN_48, nN_49, nN_50, nN_51, nN_52, nN_53, nN_54, nR_0_0, nR_0_1, nR_0_2, nR_0_3, nR_0_4, nR_0_5, nR_0_6, nR_0_7, nR_0_8, nR_0_9, nR_0_10, nR_1_0, nR_1_1, nR_1_2, nR_1_3, nR_1_4, nR_2_0, nR_2_1, nR_2_2, nR_2_3, nR_2_4, nR_3_0, nR_3_1, nR_4_2, nR_5_2, nR_6_0, nR_6_1, nR_6_2, nR_7_0, nR_30_2, nR_30_3, nR_30_4, nR_30_6, nR_30_7, nR_30_9, nR_30_10, nR_30_11, nR_30_12, nR_30_13, nR_30_14, nR_30_15, nR_30_16, nR_30_18, nR_30_19, nR_30_20, nR_30_21, nR_30_22, nR_30_23, nR_30_24, nR_30_28, nR_30_29, nR_30_31, isc, sp_in, zlt, zle, zl1, zl2, zl3, z1l, z2l, z3l, z1e, z2e, z3e, z1n, z2n, z3n, z0n, z0e, true_implies, false_implies, and_true, true_and, ho_upE, bI_ne, bI_eq, true_or, or_true]
    exact ⟨fun a => ⟨fun b => absurd ⟨a, b⟩ z, fun _ => Inv_sc hj hI0 (sm_up sm_rf rfl)⟩, fun _ => Inv_sc hj hI0 (sm_up sm_rf rfl)⟩
  simp only [mX6_confirm, fX6_confirm, u_eC, u_eV, u_eF, u_eR, u_eI, u_eL, u_eB, u_eD, u_eM, u_eU, u_aN, u_aC, u_eK, u_eT, u_cLt, u_cLe, u_cGt, u_cGe, u_cEq, u_cNe, u_cAnd, u_cOr, u_cNot, u_zN, u_zS, u_zD, u_zL, u_zI, u_zB, u_zP, u_zF, u_zA, u_zU, u_zC, u_zR, u_zRZ, u_zRC, u_zRV, u_zT, u_zE, u_zK, u_zY, ho_nid, List.getD_cons_zero, List.getD_cons_succ, List.set_cons_zero, List.set_cons_succ, List.cons_append, List.nil_append, List.take_succ_cons, List.take_zero, Int.reduceToNat, Int.toNat_natCast, nN_0, nN_1, nN_2, nN_3, nN_4, nN_5, nN_6, nN_7, nN_8, nN_9, nN_10, nN_11, nN_12, nN_13, nN_14, nN_15, nN_16, nN_17, nN_18, nN_19, nN_20, nN_21, nN_22, nN_23, nN_24, nN_25, nN_26, nN_27, nN_28, nN_29, nN_30, nN_31, nN_32, nN_33, nN_34, nN_35, nN_36, nN_37, nN_38, nN_39, nN_40, nN_41, nN_42, nN_43, nN_44, nN_45, nN_46, nN_47, nN_48, nN_49, nN_50, nN_51, nN_52, nN_53, nN_54, nR_0_0, nR_0_1, nR_0_2, nR_0_3, nR_0_4, nR_0_5, nR_0_6, nR_0_7, nR_0_8, nR_0_9, nR_0_10, nR_1_0, nR_1_1, nR_1_2, nR_1_3, nR_1_4, nR_2_0, nR_2_1, nR_2_2, nR_2_3, nR_2_4, nR_3_0, nR_3_1, nR_4_2, nR_5_2, nR_6_0, nR_6_1, nR_6_2, nR_7_0, nR_30_2, nR_30_3, nR_30_4, nR_30_6, nR_30_7, nR_30_9, nR_30_10, nR_30_11, nR_30_12, nR_30_13, nR_30_14, nR_30_15, nR_30_16, nR_30_18, nR_30_19, nR_30_20, nR_30_21, nR_30_22, nR_30_23, nR_30_24, nR_30_28, nR_30_29, nR_30_31, sp_needText (σ := σ) (show σ 0 11 ≤ 16 by rw [h1.2.2.2.2.1]; omega), h1.2.2.2.2.1, sp_needMadeTongue]
  by_cases cc : (0 ≤ c ∧ c < (M : Int)) ∧ 0 ≤ t ∧ t < 3
  · rw [if_pos cc]
    by_cases ct : 1 ≤ t ∧ t < 3
    · rw [if_pos ct]
      obtain ⟨c, rfl⟩ : ∃ y : Nat, c = (y : Int) := ⟨c.toNat, by omega⟩
      obtain ⟨t, rfl⟩ : ∃ y : Nat, t = (y : Int) := ⟨t.toNat, by omega⟩
      have c16 : c < 16 := by omega
      have thr2 : (σ 41 (3 * c) = 0 ∨ σ 41 (3 * c + t) = 0) → mX7_confirm [30, (c : Int), (t : Int)] σ (fun _ σ => σ 30 0 = 2 ∧ hi_Inv (j + 1) σ) (fun _ _ => False) := by
        intro z
        simp only [mX7_confirm, fX7_confirm, u_eC, u_eV, u_eF, u_eR, u_eI, u_eL, u_eB, u_eD, u_eM, u_eU, u_aN, u_aC, u_eK, u_eT, u_cLt, u_cLe, u_cGt, u_cGe, u_cEq, u_cNe, u_cAnd, u_cOr, u_cNot, u_zN, u_zS, u_zD, u_zL, u_zI, u_zB, u_zP, u_zF, u_zA, u_zU, u_zC, u_zR, u_zRZ, u_zRC, u_zRV, u_zT, u_zE, u_zK, u_zY, ho_nid, List.getD_cons_zero, List.getD_cons_succ, List.set_cons_zero, List.set_cons_succ, List.cons_append, List.nil_append, List.take_succ_cons, List.take_zero, Int.reduceToNat, Int.toNat_natCast, nN_0, nN_1, nN_2, nN_3, nN_4, nN_5, nN_6, nN_7, nN_8, nN_9, nN_10, nN_11, nN_12, nN_13, nN_14, nN_15, nN_16, nN_17, nN_18, nN_19, nN_20, nN_21, nN_22, nN_23, nN_24, nN_25, nN_26, nN_27, nN_28, nN_29, nN_30, nN_31, nN_32, nN_33, nN_34, nN_35, nN_36, nN_37, nN_38, nN_39, nN_40, nN_41, nN_42, nN_43, nN_44, nN_45, nN_46, nN_47, nN_48, nN_49, nN_50, nN_51, nN_52, nN_53, nN_54, nR_0_0, nR_0_1, nR_0_2, nR_0_3, nR_0_4, nR_0_5, nR_0_6, nR_0_7, nR_0_8, nR_0_9, nR_0_10, nR_1_0, nR_1_1, nR_1_2, nR_1_3, nR_1_4, nR_2_0, nR_2_1, nR_2_2, nR_2_3, nR_2_4, nR_3_0, nR_3_1, nR_4_2, nR_5_2, nR_6_0, nR_6_1, nR_6_2, nR_7_0, nR_30_2, nR_30_3, nR_30_4, nR_30_6, nR_30_7, nR_30_9, nR_30_10, nR_30_11, nR_30_12, nR_30_13, nR_30_14, nR_30_15, nR_30_16, nR_30_18, nR_30_19, nR_30_20, nR_30_21, nR_30_22, nR_30_23, nR_30_24, nR_30_28, nR_30_29, nR_30_31, isc, sp_in, zlt, zle, zl1, zl2, zl3, z1l, z2l, z3l, z1e, z2e, z3e, z1n, z2n, z3n, z0n, z0e, true_implies, false_implies, and_true, true_and, ho_upE, bI_ne, bI_eq, true_or, or_true, (show ho_omul 3 (c : Int) = ((3 * c : Nat) : Int) from by rw [wmu (by omega) (by omega)]; omega), (show ho_oadd ((3 * c : Nat) : Int) (t : Int) = ((3 * c + t : Nat) : Int) from oad (by omega) (by omega))]
        simp only [mR_30_2, mR_30_3, mR_30_4, mR_30_6, mR_30_7, mR_30_9, mR_30_10, mR_30_11, mR_30_12, mR_30_13, mR_30_14, mR_30_15, mR_30_16, mR_30_18, mR_30_19, mR_30_20, mR_30_21, mR_30_22, mR_30_23, mR_30_24, mR_30_28, mR_30_29, mR_30_31, mR_0_9, mR_7_0, nN_25, nN_26, nN_27, nN_28, nN_29, nN_30, nN_31, nN_32, nN_33, nN_34, nN_35, nN_36, nN_37, nN_38, nN_39, nN_40, nN_41, nN_42, nN_43, nN_44, nN_45, nN_46, nN_47, nN_48, nN_49, nN_50, nN_51, nN_52, nN_53, nN_54, Int.toNat_natCast, saF, saE, ho_upF, ho_upE, ne_eq, not_false_eq_true, Nat.reduceEqDiff]
        refine ⟨fun _ => ⟨fun _ => ⟨by omega, fun _ => ?_, fun y => ⟨by omega, fun _ => ?_, fun y2 => ?_⟩⟩, fun w => absurd (show 1 ≤ (t : Int) ∧ (t : Int) ≤ 2 by omega) w⟩, fun w => absurd cc.1 w⟩
        · exact Inv_sc hj hI0 (sm_up (sm_up sm_rf rfl) rfl)
        · exact Inv_sc hj hI0 (sm_up (sm_up sm_rf rfl) rfl)
        · exact absurd z (fun q => q.elim y y2)
      have e0 := (h8.2.2.1 (3 * c) (by omega) : tv (σ 18) (σ 19) (3 * c) = tv (σ 42) (σ 41) (3 * c))
      have e1 := (h8.2.2.1 (3 * c + t) (by omega) : tv (σ 18) (σ 19) (3 * c + t) = tv (σ 42) (σ 41) (3 * c + t))
      have z0 : σ 19 (3 * c) = σ 41 (3 * c) := congrArg Prod.fst e0
      have z1 : σ 19 (3 * c + t) = σ 41 (3 * c + t) := congrArg Prod.fst e1
      refine sp_textOf.mpr ?_
      have w0 : ho_w (ho_w ((c : Int) * 3) + 0) = ((3 * c : Nat) : Int) := by rw [wE (x := (c : Int) * 3) (by omega) (by omega), wE (by omega) (by omega)]; omega
      rw [w0, c3]
      refine (sp_size (by omega)).mpr ⟨fun z => Or.inr ⟨by trivial, thr2 (Or.inr (z1.symm.trans z))⟩, fun n1 => ?_⟩
      refine (sp_size (by omega)).mpr ⟨fun z => Or.inr ⟨by trivial, thr2 (Or.inl (z0.symm.trans z))⟩, fun n0 => ?_⟩
      rw [z1] at n1
      rw [z0] at n0
      have tt : t = 1 ∨ t = 2 := by omega
      clear thr1 thr2
      rcases tt with rfl | rfl
      · simp only [mX6_memoryOf, fX6_memoryOf, u_eC, u_eV, u_eF, u_eR, u_eI, u_eL, u_eB, u_eD, u_eM, u_eU, u_aN, u_aC, u_eK, u_eT, u_cLt, u_cLe, u_cGt, u_cGe, u_cEq, u_cNe, u_cAnd, u_cOr, u_cNot, u_zN, u_zS, u_zD, u_zL, u_zI, u_zB, u_zP, u_zF, u_zA, u_zU, u_zC, u_zR, u_zRZ, u_zRC, u_zRV, u_zT, u_zE, u_zK, u_zY, ho_nid, List.getD_cons_zero, List.getD_cons_succ, List.set_cons_zero, List.set_cons_succ, List.cons_append, List.nil_append, List.take_succ_cons, List.take_zero, Int.reduceToNat, Int.toNat_natCast, nN_0, nN_1, nN_2, nN_3, nN_4, nN_5, nN_6, nN_7, nN_8, nN_9, nN_10, nN_11, nN_12, nN_13, nN_14, nN_15, nN_16, nN_17, nN_18, nN_19, nN_20, nN_21, nN_22, nN_23, nN_24, nN_25, nN_26, nN_27, nN_28, nN_29, nN_30, nN_31, nN_32, nN_33, nN_34, nN_35, nN_36, nN_37, nN_38, nN_39, nN_40, nN_41, nN_42, nN_43, nN_44, nN_45, nN_46, nN_47, nN_48, nN_49, nN_50, nN_51, nN_52, nN_53, nN_54, nR_0_0, nR_0_1, nR_0_2, nR_0_3, nR_0_4, nR_0_5, nR_0_6, nR_0_7, nR_0_8, nR_0_9, nR_0_10, nR_1_0, nR_1_1, nR_1_2, nR_1_3, nR_1_4, nR_2_0, nR_2_1, nR_2_2, nR_2_3, nR_2_4, nR_3_0, nR_3_1, nR_4_2, nR_5_2, nR_6_0, nR_6_1, nR_6_2, nR_7_0, nR_30_2, nR_30_3, nR_30_4, nR_30_6, nR_30_7, nR_30_9, nR_30_10, nR_30_11, nR_30_12, nR_30_13, nR_30_14, nR_30_15, nR_30_16, nR_30_18, nR_30_19, nR_30_20, nR_30_21, nR_30_22, nR_30_23, nR_30_24, nR_30_28, nR_30_29, nR_30_31]
        refine ⟨fun _ => ?_, fun y => absurd rfl y⟩
        exact conf_core (m := 0) (mo := 4) (u := 20) (O := 48) (m' := 1) (mo' := 5) (u' := 21) (O' := 64) hj hI0 m8 hM (by omega) (by omega) (by omega) rfl n0 n1 h8 h9 h10 h11 h12 (Or.inl ⟨rfl, rfl, rfl⟩) (Or.inr ⟨rfl, rfl, rfl⟩) (by omega) (by omega) (by omega) (fun υ x y => ⟨x, y⟩)
      · simp only [mX6_memoryOf, fX6_memoryOf, u_eC, u_eV, u_eF, u_eR, u_eI, u_eL, u_eB, u_eD, u_eM, u_eU, u_aN, u_aC, u_eK, u_eT, u_cLt, u_cLe, u_cGt, u_cGe, u_cEq, u_cNe, u_cAnd, u_cOr, u_cNot, u_zN, u_zS, u_zD, u_zL, u_zI, u_zB, u_zP, u_zF, u_zA, u_zU, u_zC, u_zR, u_zRZ, u_zRC, u_zRV, u_zT, u_zE, u_zK, u_zY, ho_nid, List.getD_cons_zero, List.getD_cons_succ, List.set_cons_zero, List.set_cons_succ, List.cons_append, List.nil_append, List.take_succ_cons, List.take_zero, Int.reduceToNat, Int.toNat_natCast, nN_0, nN_1, nN_2, nN_3, nN_4, nN_5, nN_6, nN_7, nN_8, nN_9, nN_10, nN_11, nN_12, nN_13, nN_14, nN_15, nN_16, nN_17, nN_18, nN_19, nN_20, nN_21, nN_22, nN_23, nN_24, nN_25, nN_26, nN_27, nN_28, nN_29, nN_30, nN_31, nN_32, nN_33, nN_34, nN_35, nN_36, nN_37, nN_38, nN_39, nN_40, nN_41, nN_42, nN_43, nN_44, nN_45, nN_46, nN_47, nN_48, nN_49, nN_50, nN_51, nN_52, nN_53, nN_54, nR_0_0, nR_0_1, nR_0_2, nR_0_3, nR_0_4, nR_0_5, nR_0_6, nR_0_7, nR_0_8, nR_0_9, nR_0_10, nR_1_0, nR_1_1, nR_1_2, nR_1_3, nR_1_4, nR_2_0, nR_2_1, nR_2_2, nR_2_3, nR_2_4, nR_3_0, nR_3_1, nR_4_2, nR_5_2, nR_6_0, nR_6_1, nR_6_2, nR_7_0, nR_30_2, nR_30_3, nR_30_4, nR_30_6, nR_30_7, nR_30_9, nR_30_10, nR_30_11, nR_30_12, nR_30_13, nR_30_14, nR_30_15, nR_30_16, nR_30_18, nR_30_19, nR_30_20, nR_30_21, nR_30_22, nR_30_23, nR_30_24, nR_30_28, nR_30_29, nR_30_31]
        refine ⟨fun y => absurd (show (2 : Int) = 1 from y) (by omega), fun _ => ?_⟩
        exact conf_core (m := 1) (mo := 5) (u := 21) (O := 64) (m' := 0) (mo' := 4) (u' := 20) (O' := 48) hj hI0 m8 hM (by omega) (by omega) (by omega) rfl n0 n1 h8 h9 h10 h12 h11 (Or.inr ⟨rfl, rfl, rfl⟩) (Or.inl ⟨rfl, rfl, rfl⟩) (by omega) (by omega) (by omega) (fun υ x y => ⟨y, x⟩)
    · rw [if_neg ct]
      exact Or.inl ⟨by trivial, thr1 (by omega)⟩
  · rw [if_neg cc]
    exact Or.inl ⟨by trivial, thr1 (by omega)⟩
