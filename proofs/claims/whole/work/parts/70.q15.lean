/-- the text x is one that was filled among the first c captions -/
def Wf (h : Nat → Prop) (t c x : Nat) : Prop := ∃ c', c' < c ∧ x = 3 * c' + t ∧ h c'
theorem Wf_0 {h : Nat → Prop} {t x : Nat} : ¬ Wf h t 0 x := fun ⟨_, a, _⟩ => absurd a (by omega)
theorem Wf_no {h : Nat → Prop} {t c x : Nat} (n : ¬ h c) : Wf h t (c + 1) x ↔ Wf h t c x :=
  ⟨fun ⟨c', a, b, d⟩ => ⟨c', by
      by_cases q : c' = c
      · subst q; exact absurd d n
      · omega, b, d⟩, fun ⟨c', a, b, d⟩ => ⟨c', by omega, b, d⟩⟩
theorem Wf_self {h : Nat → Prop} {t c : Nat} (y : h c) : Wf h t (c + 1) (3 * c + t) := ⟨c, by omega, rfl, y⟩
theorem Wf_ne {h : Nat → Prop} {t c x : Nat} (n : x ≠ 3 * c + t) : Wf h t (c + 1) x ↔ Wf h t c x :=
  ⟨fun ⟨c', a, b, d⟩ => ⟨c', by
      by_cases q : c' = c
      · subst q; exact absurd b n
      · omega, b, d⟩, fun ⟨c', a, b, d⟩ => ⟨c', by omega, b, d⟩⟩
theorem Wf_cur {h : Nat → Prop} {t c : Nat} : ¬ Wf h t c (3 * c + t) := fun ⟨c', a, b, _⟩ => by omega
theorem Wf_org {h : Nat → Prop} {t c x : Nat} (t1 : 1 ≤ t) (t3 : t < 3) : ¬ Wf h t c (3 * x) := fun ⟨c', a, b, _⟩ => by omega
theorem Wf_lt {h : Nat → Prop} {t c x : Nat} (t3 : t < 3) (w : Wf h t c x) : x < 3 * c := by
  obtain ⟨c', a, b, _⟩ := w
  omega
/-- f' is g where a text was filled, f elsewhere -/
def UP {α : Type} (h : Nat → Prop) (t c n : Nat) (π : Nat → Nat) (f f' g : Nat → α) : Prop := ∀ x, x < n → (Wf h t c (π x) → f' x = g x) ∧ (¬ Wf h t c (π x) → f' x = f x)
theorem UP_0 {α : Type} {h : Nat → Prop} {t n : Nat} {π : Nat → Nat} {f g : Nat → α} : UP h t 0 n π f f g := fun _ _ => ⟨fun w => absurd w Wf_0, fun _ => rfl⟩
theorem UP_no {α : Type} {h : Nat → Prop} {t c n : Nat} {π : Nat → Nat} {f f' g : Nat → α} (u : UP h t c n π f f' g) (e : ¬ h c) : UP h t (c + 1) n π f f' g := fun x hx => ⟨fun w => (u x hx).1 ((Wf_no e).mp w), fun w => (u x hx).2 (fun z => w ((Wf_no e).mpr z))⟩
theorem UP_yes {α : Type} {h : Nat → Prop} {t c n : Nat} {π : Nat → Nat} {f f' f2 g : Nat → α} (u : UP h t c n π f f' g) (y : h c) (e1 : ∀ x, x < n → π x = 3 * c + t → f2 x = g x) (e2 : ∀ x, x < n → π x ≠ 3 * c + t → f2 x = f' x) : UP h t (c + 1) n π f f2 g := by
  intro x hx
  by_cases q : π x = 3 * c + t
  · exact ⟨fun _ => e1 x hx q, fun w => absurd (by rw [q]; exact Wf_self y) w⟩
  · rw [e2 x hx q]
    exact ⟨fun w => (u x hx).1 ((Wf_ne q).mp w), fun w => (u x hx).2 (fun z => w ((Wf_ne q).mpr z))⟩
/-- what one asking makes of the pairs -/
noncomputable def fS (K : Nat) (E : Nat → TV × TV) (x : TV) : Nat → TV × TV := @dite (Nat → TV × TV) (∃ i, i < K ∧ (E i).1 = x) (Classical.propDecidable _) (fun q => psh (Classical.choose q) E K (E (Classical.choose q))) (fun _ => E)
noncomputable def fE (K : Nat) (H : Nat → Prop) (Y : Nat → TV) (E : Nat → TV × TV) (c : Nat) : Nat → TV × TV := Nat.rec (motive := fun _ => Nat → TV × TV) E (fun c r => @ite (Nat → TV × TV) (H c) (Classical.propDecidable _) (fS K r (Y c)) r) c
def fH (K : Nat) (H : Nat → Prop) (Y : Nat → TV) (E : Nat → TV × TV) (c : Nat) : Prop := H c ∧ ∃ i, i < K ∧ (fE K H Y E c i).1 = Y c
noncomputable def fN (K : Nat) (H : Nat → Prop) (Y : Nat → TV) (E : Nat → TV × TV) (c : Nat) : Nat := Nat.rec (motive := fun _ => Nat) 0 (fun c n => @ite Nat (fH K H Y E c) (Classical.propDecidable _) (n + 1) n) c
/-- what the text x becomes where it is filled -/
noncomputable def fA (K : Nat) (H : Nat → Prop) (Y : Nat → TV) (E : Nat → TV × TV) (x : Nat) : TV := (fE K H Y E (x / 3 + 1) (K - 1)).2
theorem fE_yes {K i c : Nat} {H : Nat → Prop} {Y : Nat → TV} {E : Nat → TV × TV} (hd : DIST (fE K H Y E c) K) (y : H c) (hi : i < K) (e : (fE K H Y E c i).1 = Y c) : fE K H Y E (c + 1) = psh i (fE K H Y E c) K (fE K H Y E c i) := by
  show @ite (Nat → TV × TV) (H c) (Classical.propDecidable _) (fS K (fE K H Y E c) (Y c)) (fE K H Y E c) = _
  rw [if_pos y]
  unfold fS
  have q : ∃ i, i < K ∧ (fE K H Y E c i).1 = Y c := ⟨i, hi, e⟩
  rw [dif_pos q]
  have s := Classical.choose_spec q
  have w : Classical.choose q = i := hd _ _ s.1 hi (s.2.trans e.symm)
  rw [w]
theorem fE_no {K c : Nat} {H : Nat → Prop} {Y : Nat → TV} {E : Nat → TV × TV} (n : ¬ fH K H Y E c) : fE K H Y E (c + 1) = fE K H Y E c := by
  show @ite (Nat → TV × TV) (H c) (Classical.propDecidable _) (fS K (fE K H Y E c) (Y c)) (fE K H Y E c) = _
  by_cases y : H c
  · rw [if_pos y]
    unfold fS
    rw [dif_neg (fun q => n ⟨y, q⟩)]
  · rw [if_neg y]
theorem fN_yes {K c : Nat} {H : Nat → Prop} {Y : Nat → TV} {E : Nat → TV × TV} (y : fH K H Y E c) : fN K H Y E (c + 1) = fN K H Y E c + 1 := by
  show @ite Nat (fH K H Y E c) (Classical.propDecidable _) (fN K H Y E c + 1) (fN K H Y E c) = _
  rw [if_pos y]
theorem fN_no {K c : Nat} {H : Nat → Prop} {Y : Nat → TV} {E : Nat → TV × TV} (y : ¬ fH K H Y E c) : fN K H Y E (c + 1) = fN K H Y E c := by
  show @ite Nat (fH K H Y E c) (Classical.propDecidable _) (fN K H Y E c + 1) (fN K H Y E c) = _
  rw [if_neg y]
theorem fN_le {K c : Nat} {H : Nat → Prop} {Y : Nat → TV} {E : Nat → TV × TV} : fN K H Y E c ≤ c := by
  induction c with
  | zero => exact Nat.le_refl _
  | succ c ih =>
    by_cases y : fH K H Y E c
    · rw [fN_yes y]; omega
    · rw [fN_no y]; omega
theorem fE_ok {K c : Nat} {H : Nat → Prop} {Y : Nat → TV} {E : Nat → TV × TV} (hd : DIST E K) (hn : NE E K) : DIST (fE K H Y E c) K ∧ NE (fE K H Y E c) K := by
  induction c with
  | zero => exact ⟨hd, hn⟩
  | succ c ih =>
    by_cases y : fH K H Y E c
    · obtain ⟨y, i, hi, e⟩ := y
      rw [fE_yes ih.1 y hi e]
      exact ⟨DIST_psh ih.1 (Or.inl ⟨hi, rfl⟩) (fun j hj hji w => hji (ih.1 j i hj hi w)), NE_psh ih.2 (Or.inl ⟨hi, rfl⟩) (ih.2 i hi)⟩
    · rw [fE_no y]; exact ih
theorem fA_at {K i c t : Nat} {H : Nat → Prop} {Y : Nat → TV} {E : Nat → TV × TV} (hd : DIST (fE K H Y E c) K) (y : H c) (hi : i < K) (e : (fE K H Y E c i).1 = Y c) (ht : t < 3) : fA K H Y E (3 * c + t) = (fE K H Y E c i).2 := by
  unfold fA
  rw [show (3 * c + t) / 3 = c by omega, fE_yes hd y hi e, psh_z (by omega)]
theorem sp_made {t : Int} {σ : ho_S} {Q : ho_K} {X : ho_X} (h : 1 ≤ t ∧ t < 3) : mX6_needMadeTongue [t] σ Q X ↔ Q 0 σ := by rw [sp_needMadeTongue, if_pos h]
theorem sp_memoryOf {t mo : Nat} {σ : ho_S} {Q : ho_K} {X : ho_X} (h : (t = 1 ∧ mo = 4) ∨ (t = 2 ∧ mo = 5)) : mX6_memoryOf [0, (t : Int)] σ Q X ↔ Q (mo : Int) σ := by
  simp only [mX6_memoryOf, fX6_memoryOf, u_eC, u_eV, u_eF, u_eR, u_eI, u_eL, u_eB, u_eD, u_eM, u_eU, u_aN, u_aC, u_eK, u_eT, u_cLt, u_cLe, u_cGt, u_cGe, u_cEq, u_cNe, u_cAnd, u_cOr, u_cNot, u_zN, u_zS, u_zD, u_zL, u_zI, u_zB, u_zP, u_zF, u_zA, u_zU, u_zC, u_zR, u_zRZ, u_zRC, u_zRV, u_zT, u_zE, u_zK, u_zY, ho_nid, List.getD_cons_zero, List.getD_cons_succ, List.set_cons_zero, List.set_cons_succ, List.cons_append, List.nil_append, List.take_succ_cons, List.take_zero, Int.reduceToNat, Int.toNat_natCast, nN_0, nN_1, nN_2, nN_3, nN_4, nN_5, nN_6, nN_7, nN_8, nN_9, nN_10, nN_11, nN_12, nN_13, nN_14, nN_15, nN_16, nN_17, nN_18, nN_19, nN_20, nN_21, nN_22, nN_23, nN_24, nN_25, nN_26, nN_27, nN_28, nN_29, nN_30, nN_31, nN_32, nN_33, nN_34, nN_35, nN_36, nN_37, nN_38, nN_39, nN_40, nN_41, nN_42, nN_43, nN_44, nN_45, nN_46, nN_47, nN_48, nN_49, nN_50, nN_51, nN_52, nN_53, nN_54, nR_0_0, nR_0_1, nR_0_2, nR_0_3, nR_0_4, nR_0_5, nR_0_6, nR_0_7, nR_0_8, nR_0_9, nR_0_10, nR_1_0, nR_1_1, nR_1_2, nR_1_3, nR_1_4, nR_2_0, nR_2_1, nR_2_2, nR_2_3, nR_2_4, nR_3_0, nR_3_1, nR_4_2, nR_5_2, nR_6_0, nR_6_1, nR_6_2, nR_7_0, nR_30_2, nR_30_3, nR_30_4, nR_30_6, nR_30_7, nR_30_9, nR_30_10, nR_30_11, nR_30_12, nR_30_13, nR_30_14, nR_30_15, nR_30_16, nR_30_18, nR_30_19, nR_30_20, nR_30_21, nR_30_22, nR_30_23, nR_30_24, nR_30_28, nR_30_29, nR_30_31]
  rcases h with ⟨rfl, rfl⟩ | ⟨rfl, rfl⟩
  · exact ⟨fun h => h.1 rfl, fun h => ⟨fun _ => h, fun y => absurd rfl y⟩⟩
  · exact ⟨fun h => h.2 (by decide), fun h => ⟨fun y => absurd y (by decide), fun _ => h⟩⟩
def pFc (mo u k j : Nat) : Bool := pMm mo u k j || (Nat.beq k 27 || Nat.beq k 28)
theorem pFc_mm {mo u : Nat} : ∀ k j, pMm mo u k j = true → pFc mo u k j = true := fun k j z => by unfold pFc; rw [z]; rfl
def pFm (k j : Nat) : Bool := pGt k j || (Nat.beq k 30 && Nat.beq j 0)
theorem pFm_gt : ∀ k j, pGt k j = true → pFm k j = true := fun k j z => by unfold pFm; rw [z]; rfl
theorem o30 {c : Nat} (hc : c < 1000) : ho_w (ho_w ((c : Int) * 3) + 0) = ((3 * c : Nat) : Int) := by
  have h := o3c (c := c) (t := 0) hc (by omega)
  exact h

theorem fill_c {mo u O t M K : Nat} {ck : Int} {E : Nat → TV × TV} {H : Nat → Prop} {Y : Nat → TV} {σ : ho_S} {Q : ho_K} {X : ho_X} (hm : MOK mo u O) (ht1 : 1 ≤ t) (ht3 : t < 3) (hmt : mo = t + 3) (m11 : σ 0 11 = (M : Int)) (hM : M ≤ 16) (hC : CM σ mo u O K E) (hK8 : K ≤ 8) (hd : DIST E K) (hn : NE E K) (hz : SZ σ) (hck : σ mo 4 = ck) (h0 : 0 ≤ ck) (h9 : ck < 90000)
    (hH : ∀ c, c < M → (H c ↔ (σ 19 (3 * c + t) = 0 ∨ σ 28 (3 * c + t) ≠ 0))) (hY : ∀ c, c < M → Y c = tv (σ 18) (σ 19) (3 * c))
    (h : ∀ σ', sm (pFc mo u) σ σ' → CM σ' mo u O K (fE K H Y E M) → (ck ≤ σ' mo 4 ∧ σ' mo 4 ≤ ck + M) → UP (fH K H Y E) t M 80 (fun x => x) (tv (σ 18) (σ 19)) (tv (σ' 18) (σ' 19)) (fA K H Y E) → (∀ y, y < 80 → ∃ x, x < 80 ∧ tv (σ' 18) (σ' 19) y = tv (σ 18) (σ 19) x) → UP (fH K H Y E) t M 48 (fun x => x) (σ 28) (σ' 28) (fun _ => 0) → UP (fH K H Y E) t M 384 (fun x => x / 8) (σ 27) (σ' 27) (fun _ => 0) → Q (fN K H Y E M : Int) σ') : mX6_fill [0, (t : Int)] σ Q X := by
  simp only [mX6_fill, fX6_fill, u_eC, u_eV, u_eF, u_eR, u_eI, u_eL, u_eB, u_eD, u_eM, u_eU, u_aN, u_aC, u_eK, u_eT, u_cLt, u_cLe, u_cGt, u_cGe, u_cEq, u_cNe, u_cAnd, u_cOr, u_cNot, u_zN, u_zS, u_zD, u_zL, u_zI, u_zB, u_zP, u_zF, u_zA, u_zU, u_zC, u_zR, u_zRZ, u_zRC, u_zRV, u_zT, u_zE, u_zK, u_zY, ho_nid, List.getD_cons_zero, List.getD_cons_succ, List.set_cons_zero, List.set_cons_succ, List.cons_append, List.nil_append, List.take_succ_cons, List.take_zero, Int.reduceToNat, Int.toNat_natCast, nN_0, nN_1, nN_2, nN_3, nN_4, nN_5, nN_6, nN_7, nN_8, nN_9, nN_10, nN_11, nN_12, nN_13, nN_14, nN_15, nN_16, nN_17, nN_18, nN_19, nN_20, nN_21, nN_22, nN_23, nN_24, nN_25, nN_26, nN_27, nN_28, nN_29, nN_30, nN_31, nN_32, nN_33, nN_34, nN_35, nN_36, nN_37, nN_38, nN_39, nN_40, nN_41, nN_42, nN_43, nN_44, nN_45, nN_46, nN_47, nN_48, nN_49, nN_50, nN_51, nN_52, nN_53, nN_54, nR_0_0, nR_0_1, nR_0_2, nR_0_3, nR_0_4, nR_0_5, nR_0_6, nR_0_7, nR_0_8, nR_0_9, nR_0_10, nR_1_0, nR_1_1, nR_1_2, nR_1_3, nR_1_4, nR_2_0, nR_2_1, nR_2_2, nR_2_3, nR_2_4, nR_3_0, nR_3_1, nR_4_2, nR_5_2, nR_6_0, nR_6_1, nR_6_2, nR_7_0, nR_30_2, nR_30_3, nR_30_4, nR_30_6, nR_30_7, nR_30_9, nR_30_10, nR_30_11, nR_30_12, nR_30_13, nR_30_14, nR_30_15, nR_30_16, nR_30_18, nR_30_19, nR_30_20, nR_30_21, nR_30_22, nR_30_23, nR_30_24, nR_30_28, nR_30_29, nR_30_31, sp_made (show 1 ≤ (t : Int) ∧ (t : Int) < 3 by omega), sp_memoryOf (show (t = 1 ∧ mo = 4) ∨ (t = 2 ∧ mo = 5) by omega)]
  refine zW_rule (fun v σ' z => ∃ c : Nat, c ≤ M ∧ v = [0, (t : Int), (mo : Int), (fN K H Y E c : Int), (c : Int)] ∧ z = M - c ∧ sm (pFc mo u) σ σ' ∧ CM σ' mo u O K (fE K H Y E c) ∧ (ck ≤ σ' mo 4 ∧ σ' mo 4 ≤ ck + c) ∧ UP (fH K H Y E) t c 80 (fun x => x) (tv (σ 18) (σ 19)) (tv (σ' 18) (σ' 19)) (fA K H Y E) ∧ (∀ y, y < 80 → ∃ x, x < 80 ∧ tv (σ' 18) (σ' 19) y = tv (σ 18) (σ 19) x) ∧ UP (fH K H Y E) t c 48 (fun x => x) (σ 28) (σ' 28) (fun _ => 0) ∧ UP (fH K H Y E) t c 384 (fun x => x / 8) (σ 27) (σ' 27) (fun _ => 0)) _ ⟨0, by omega, rfl, rfl, sm_rf, hC, ⟨by rw [hck]; exact Int.le_refl _, by rw [hck]; omega⟩, UP_0, fun y hy => ⟨y, hy, rfl⟩, UP_0, UP_0⟩ ?_
  rintro v σ' z ⟨c, hc, rfl, rfl, s1, C1, ck1, u1, old1, u28, u27⟩ KK KE hKK hKE
  have m0 : σ' 0 11 = (M : Int) := (s1 0 11 (by unfold MOK at hm; rcases hm with ⟨rfl, rfl, rfl⟩ | ⟨rfl, rfl, rfl⟩ <;> rfl)).trans m11
  have z1 : SZ σ' := SZ_old hz old1
  by_cases c16 : c < M
  · have hc16 : c < 16 := by omega
    have hx : tv (σ' 18) (σ' 19) (3 * c) = Y c := ((u1 (3 * c) (by omega)).2 (Wf_org ht1 ht3)).trans (hY c c16).symm
    have hs : σ' 19 (3 * c + t) = σ 19 (3 * c + t) := congrArg Prod.fst ((u1 (3 * c + t) (by omega)).2 Wf_cur)
    have hb : σ' 28 (3 * c + t) = σ 28 (3 * c + t) := (u28 (3 * c + t) (by omega)).2 Wf_cur
    have dd := fE_ok (K := K) (H := H) (Y := Y) (c := c) hd hn
    have hHc := hH c c16
    have nle := fN_le (K := K) (H := H) (Y := Y) (E := E) (c := c)
    simp only [u_eC, u_eV, u_eF, u_eR, u_eI, u_eL, u_eB, u_eD, u_eM, u_eU, u_aN, u_aC, u_eK, u_eT, u_cLt, u_cLe, u_cGt, u_cGe, u_cEq, u_cNe, u_cAnd, u_cOr, u_cNot, u_zN, u_zS, u_zD, u_zL, u_zI, u_zB, u_zP, u_zF, u_zA, u_zU, u_zC, u_zR, u_zRZ, u_zRC, u_zRV, u_zT, u_zE, u_zK, u_zY, ho_nid, List.getD_cons_zero, List.getD_cons_succ, List.set_cons_zero, List.set_cons_succ, List.cons_append, List.nil_append, List.take_succ_cons, List.take_zero, Int.reduceToNat, Int.toNat_natCast, nN_0, nN_1, nN_2, nN_3, nN_4, nN_5, nN_6, nN_7, nN_8, nN_9, nN_10, nN_11, nN_12, nN_13, nN_14, nN_15, nN_16, nN_17, nN_18, nN_19, nN_20, nN_21, nN_22, nN_23, nN_24, nN_25, nN_26, nN_27, nN_28, nN_29, nN_30, nN_31, nN_32, nN_33, nN_34, nN_35, nN_36, nN_37, nN_38, nN_39, nN_40, nN_41, nN_42, nN_43, nN_44, nN_45, nN_46, nN_47, nN_48, nN_49, nN_50, nN_51, nN_52, nN_53, nN_54, nR_0_0, nR_0_1, nR_0_2, nR_0_3, nR_0_4, nR_0_5, nR_0_6, nR_0_7, nR_0_8, nR_0_9, nR_0_10, nR_1_0, nR_1_1, nR_1_2, nR_1_3, nR_1_4, nR_2_0, nR_2_1, nR_2_2, nR_2_3, nR_2_4, nR_3_0, nR_3_1, nR_4_2, nR_5_2, nR_6_0, nR_6_1, nR_6_2, nR_7_0, nR_30_2, nR_30_3, nR_30_4, nR_30_6, nR_30_7, nR_30_9, nR_30_10, nR_30_11, nR_30_12, nR_30_13, nR_30_14, nR_30_15, nR_30_16, nR_30_18, nR_30_19, nR_30_20, nR_30_21, nR_30_22, nR_30_23, nR_30_24, nR_30_28, nR_30_29, nR_30_31, m0, sp_textOf, o3c (show c < 1000 by omega) (show t < 1000 by omega), o30 (show c < 1000 by omega), sp_size (show 3 * c + t < 80 by omega), sp_isBehind (show 3 * c + t < 48 by omega), sp_setBehind (show 3 * c + t < 48 by omega), inc (show c < 100000 by omega), inc (show fN K H Y E c < 100000 by omega), bI_ne, bI_eq, hs, hb]
    have no : ¬ fH K H Y E c → KK [0, (t : Int), (mo : Int), (fN K H Y E c : Int), ((c + 1 : Nat) : Int)] σ' := fun n => hKK _ _ (M - (c + 1)) (by omega) ⟨c + 1, by omega, by rw [fN_no n], rfl, s1, by rw [fE_no n]; exact C1, ⟨ck1.1, by omega⟩, UP_no u1 n, old1, UP_no u28 n, UP_no u27 n⟩
    have hmk : mo ≠ 27 ∧ mo ≠ 28 ∧ u ≠ 27 ∧ u ≠ 28 ∧ O ≤ 64 := by unfold MOK at hm; omega
    have nm : ∀ k, (k = 27 ∨ k = 28) → ∀ j, pMm mo u k j = false := fun k hk j => by
      rcases hk with rfl | rfl <;> rcases hm with ⟨rfl, rfl, rfl⟩ | ⟨rfl, rfl, rfl⟩ <;> rfl
    have giv : H c → mX2_give [(mo : Int), 3, ((3 * c : Nat) : Int), ((3 * c + t : Nat) : Int)] σ' (fun a σ => (a ≠ 0 → mX6_forgetNames [0, ((3 * c + t : Nat) : Int)] (ho_up σ 28 (3 * c + t) (ho_nz 0)) (fun _ σ => KK [0, (t : Int), (mo : Int), ((fN K H Y E c + 1 : Nat) : Int), ((c + 1 : Nat) : Int)] σ) X) ∧ (a = 0 → KK [0, (t : Int), (mo : Int), (fN K H Y E c : Int), ((c + 1 : Nat) : Int)] σ)) X := by
      intro y
      refine sp_give hm C1 hK8 (by omega) (by omega) z1 (ck := σ' mo 4) rfl (by omega) (by omega) (fun hnot => ⟨fun w => absurd rfl w, fun _ => no (fun ⟨_, i, hi, e⟩ => hnot i hi (e.trans hx.symm))⟩) (fun i hi e σ2 s2 C2 ck2 t2 o2 z2 => ⟨fun _ => ?_, fun w => absurd w (by decide)⟩)
      have e' : (fE K H Y E c i).1 = Y c := e.trans hx
      have yy : fH K H Y E c := ⟨y, i, hi, e'⟩
      refine sp_forgetNames (by omega) ?_
      obtain ⟨υ, hυ⟩ : ∃ υ, υ = sa (ho_up σ2 28 (3 * c + t) (ho_nz 0)) 27 (fgn (ho_up σ2 28 (3 * c + t) (ho_nz 0) 27) (3 * c + t) 1) := ⟨_, rfl⟩
      have kk : ∀ k, k ≠ 27 → k ≠ 28 → υ k = σ2 k := fun k a b => by rw [hυ, saF a, ho_upF b]
      have y28 : ∀ x, υ 28 x = if x = 3 * c + t then 0 else σ' 28 x := fun x => by
        rw [hυ, saF (show (28 : Nat) ≠ 27 by decide), ho_upA]
        by_cases q : x = 3 * c + t
        · rw [if_pos q, if_pos q]; rfl
        · rw [if_neg q, if_neg q]; exact s2 28 x (nm 28 (Or.inr rfl) x)
      have y27 : ∀ x, υ 27 x = if 8 * (3 * c + t) ≤ x ∧ x < 8 * (3 * c + t + 1) then 0 else σ' 27 x := fun x => by
        rw [hυ, saE, ho_upF (show (27 : Nat) ≠ 28 by decide), sm_fn s2 27 (nm 27 (Or.inl rfl))]
        rfl
      have sU : sm (pFc mo u) σ υ := by
        rw [hυ]
        refine sm_sa (sm_up (sm_tr s1 (sm_w s2 pFc_mm)) ?_) (fun _ => ?_)
        · unfold pFc
          rw [nm 28 (Or.inr rfl)]; rfl
        · unfold pFc
          rw [nm 27 (Or.inl rfl)]; rfl
      rw [← hυ]
      clear hυ
      have k18 := kk 18 (by omega) (by omega)
      have k19 := kk 19 (by omega) (by omega)
      have kmo := kk mo (by omega) (by omega)
      have ku := kk u (by omega) (by omega)
      refine hKK _ _ (M - (c + 1)) (by omega) ⟨c + 1, by omega, by rw [fN_yes yy], rfl, sU, ?_, ⟨by rw [kmo, ck2]; omega, by rw [kmo, ck2]; omega⟩, UP_yes u1 yy (fun x hx q => ?_) (fun x hx q => ?_), fun w hw => ?_, UP_yes u28 yy (fun x hx q => ?_) (fun x hx q => ?_), UP_yes u27 yy (fun x hx q => ?_) (fun x hx q => ?_)⟩
      · rw [fE_yes dd.1 y hi e']
        unfold CM
        rw [kmo, ku, k18, k19]
        exact C2
      · have q : x = 3 * c + t := q
        rw [q, k18, k19, t2, fA_at dd.1 y hi e' ht3]
      · rw [k18, k19]
        exact o2 x hx q
      · rw [k18, k19]
        by_cases q : w = 3 * c + t
        · obtain ⟨_, _, _, p, p1, _, _, p4, _, _⟩ := C1
          have hp := p1 i hi
          obtain ⟨x, hx9, ex⟩ := old1 (O + 8 + p i) (by omega)
          exact ⟨x, hx9, by rw [q, t2, ← ex]; exact (p4 i hi).2.symm⟩
        · rw [o2 w hw q]; exact old1 w hw
      · have q : x = 3 * c + t := q
        rw [y28, if_pos q]
      · have q : ¬ x = 3 * c + t := q
        rw [y28, if_neg q]
      · have q : x / 8 = 3 * c + t := q
        rw [y27, if_pos (by omega)]
      · have q : ¬ x / 8 = 3 * c + t := q
        rw [y27, if_neg (by omega)]
    exact ⟨fun _ => ⟨fun z => giv (hHc.mpr (Or.inl z)), fun z => ⟨fun z2 => giv (hHc.mpr (Or.inr z2)), fun z2 => no (fun q => (hHc.mp q.1).elim z z2)⟩⟩, fun w => absurd w (by omega)⟩
  · simp only [u_eC, u_eV, u_eF, u_eR, u_eI, u_eL, u_eB, u_eD, u_eM, u_eU, u_aN, u_aC, u_eK, u_eT, u_cLt, u_cLe, u_cGt, u_cGe, u_cEq, u_cNe, u_cAnd, u_cOr, u_cNot, u_zN, u_zS, u_zD, u_zL, u_zI, u_zB, u_zP, u_zF, u_zA, u_zU, u_zC, u_zR, u_zRZ, u_zRC, u_zRV, u_zT, u_zE, u_zK, u_zY, ho_nid, List.getD_cons_zero, List.getD_cons_succ, List.set_cons_zero, List.set_cons_succ, List.cons_append, List.nil_append, List.take_succ_cons, List.take_zero, Int.reduceToNat, Int.toNat_natCast, nN_0, nN_1, nN_2, nN_3, nN_4, nN_5, nN_6, nN_7, nN_8, nN_9, nN_10, nN_11, nN_12, nN_13, nN_14, nN_15, nN_16, nN_17, nN_18, nN_19, nN_20, nN_21, nN_22, nN_23, nN_24, nN_25, nN_26, nN_27, nN_28, nN_29, nN_30, nN_31, nN_32, nN_33, nN_34, nN_35, nN_36, nN_37, nN_38, nN_39, nN_40, nN_41, nN_42, nN_43, nN_44, nN_45, nN_46, nN_47, nN_48, nN_49, nN_50, nN_51, nN_52, nN_53, nN_54, nR_0_0, nR_0_1, nR_0_2, nR_0_3, nR_0_4, nR_0_5, nR_0_6, nR_0_7, nR_0_8, nR_0_9, nR_0_10, nR_1_0, nR_1_1, nR_1_2, nR_1_3, nR_1_4, nR_2_0, nR_2_1, nR_2_2, nR_2_3, nR_2_4, nR_3_0, nR_3_1, nR_4_2, nR_5_2, nR_6_0, nR_6_1, nR_6_2, nR_7_0, nR_30_2, nR_30_3, nR_30_4, nR_30_6, nR_30_7, nR_30_9, nR_30_10, nR_30_11, nR_30_12, nR_30_13, nR_30_14, nR_30_15, nR_30_16, nR_30_18, nR_30_19, nR_30_20, nR_30_21, nR_30_22, nR_30_23, nR_30_24, nR_30_28, nR_30_29, nR_30_31, m0]
    have cM : c = M := by omega
    subst cM
    exact ⟨fun w => absurd w (by omega), fun _ => hKE _ (h σ' s1 C1 ck1 u1 old1 u28 u27)⟩

theorem fill_m {m t M K : Nat} {E : Nat → TV × TV} {H : Nat → Prop} {Y : Nat → TV} {σ : ho_S} {Q : ho_K} {X : ho_X} (hm : m < 2) (hmt : t = m + 1) (m8 : σ 30 8 = (M : Int)) (hM : M ≤ 16) (hC : MM σ m K E) (hK8 : K ≤ 8) (hd : DIST E K) (hn : NE E K) (hz : SZM σ) (h0 : 0 ≤ σ 30 17) (h9 : σ 30 17 < 90000)
    (hH : ∀ c, c < M → (H c ↔ (σ 41 (3 * c + t) = 0 ∨ σ 43 (3 * c + t) < σ 43 (3 * c)))) (hY : ∀ c, c < M → Y c = tv (σ 42) (σ 41) (3 * c)) (h43 : ∀ x, x < 48 → σ 43 x ≤ σ 30 17)
    (h : ∀ σ', sm pFm σ σ' → σ' 30 0 = 0 → MM σ' m K (fE K H Y E M) → SZM σ' → (σ 30 17 ≤ σ' 30 17 ∧ σ' 30 17 ≤ σ 30 17 + M) → UP (fH K H Y E) t M 48 (fun x => x) (tv (σ 42) (σ 41)) (tv (σ' 42) (σ' 41)) (fA K H Y E) → (∀ x, x < 48 → (Wf (fH K H Y E) t M x → σ 30 17 < σ' 43 x ∧ σ' 43 x ≤ σ' 30 17) ∧ (¬ Wf (fH K H Y E) t M x → σ' 43 x = σ 43 x)) → UP (fH K H Y E) t M 384 (fun x => x / 8) (σ 44) (σ' 44) (fun _ => 0) → (∀ k, (k < 9 * m ∨ 9 * m + 9 ≤ k) → σ' 50 k = σ 50 k) → Q (fN K H Y E M : Int) σ') : mX7_fill [30, (t : Int)] σ Q X := by
  simp only [mX7_fill, fX7_fill, u_eC, u_eV, u_eF, u_eR, u_eI, u_eL, u_eB, u_eD, u_eM, u_eU, u_aN, u_aC, u_eK, u_eT, u_cLt, u_cLe, u_cGt, u_cGe, u_cEq, u_cNe, u_cAnd, u_cOr, u_cNot, u_zN, u_zS, u_zD, u_zL, u_zI, u_zB, u_zP, u_zF, u_zA, u_zU, u_zC, u_zR, u_zRZ, u_zRC, u_zRV, u_zT, u_zE, u_zK, u_zY, ho_nid, List.getD_cons_zero, List.getD_cons_succ, List.set_cons_zero, List.set_cons_succ, List.cons_append, List.nil_append, List.take_succ_cons, List.take_zero, Int.reduceToNat, Int.toNat_natCast, nN_0, nN_1, nN_2, nN_3, nN_4, nN_5, nN_6, nN_7, nN_8, nN_9, nN_10, nN_11, nN_12, nN_13, nN_14, nN_15, nN_16, nN_17, nN_18, nN_19, nN_20, nN_21, nN_22, nN_23, nN_24, nN_25, nN_26, nN_27, nN_28, nN_29, nN_30, nN_31, nN_32, nN_33, nN_34, nN_35, nN_36, nN_37, nN_38, nN_39, nN_40, nN_41, nN_42, nN_43, nN_44, nN_45, nN_46, nN_47, nN_48, nN_49, nN_50, nN_51, nN_52, nN_53, nN_54, nR_0_0, nR_0_1, nR_0_2, nR_0_3, nR_0_4, nR_0_5, nR_0_6, nR_0_7, nR_0_8, nR_0_9, nR_0_10, nR_1_0, nR_1_1, nR_1_2, nR_1_3, nR_1_4, nR_2_0, nR_2_1, nR_2_2, nR_2_3, nR_2_4, nR_3_0, nR_3_1, nR_4_2, nR_5_2, nR_6_0, nR_6_1, nR_6_2, nR_7_0, nR_30_2, nR_30_3, nR_30_4, nR_30_6, nR_30_7, nR_30_9, nR_30_10, nR_30_11, nR_30_12, nR_30_13, nR_30_14, nR_30_15, nR_30_16, nR_30_18, nR_30_19, nR_30_20, nR_30_21, nR_30_22, nR_30_23, nR_30_24, nR_30_28, nR_30_29, nR_30_31, sp_in, zlt, zle, zl1, zl2, zl3, z1l, z2l, z3l, z1e, z2e, z3e, z1n, z2n, z3n, z0n, z0e, true_implies, false_implies, and_true, true_and, ho_upE, bI_ne, bI_eq, true_or, or_true]
  refine ⟨fun _ => ?_, fun w => absurd (show 1 ≤ (t : Int) ∧ (t : Int) ≤ 2 by omega) w⟩
  refine zW_rule (fun v σ' z => ∃ c : Nat, c ≤ M ∧ v = [30, (t : Int), (fN K H Y E c : Int), (c : Int)] ∧ z = M - c ∧ sm pFm σ σ' ∧ σ' 30 0 = 0 ∧ MM σ' m K (fE K H Y E c) ∧ SZM σ' ∧ (σ 30 17 ≤ σ' 30 17 ∧ σ' 30 17 ≤ σ 30 17 + c) ∧ UP (fH K H Y E) t c 48 (fun x => x) (tv (σ 42) (σ 41)) (tv (σ' 42) (σ' 41)) (fA K H Y E) ∧ (∀ x, x < 48 → (Wf (fH K H Y E) t c x → σ 30 17 < σ' 43 x ∧ σ' 43 x ≤ σ' 30 17) ∧ (¬ Wf (fH K H Y E) t c x → σ' 43 x = σ 43 x)) ∧ UP (fH K H Y E) t c 384 (fun x => x / 8) (σ 44) (σ' 44) (fun _ => 0) ∧ (∀ k, (k < 9 * m ∨ 9 * m + 9 ≤ k) → σ' 50 k = σ 50 k)) _ ⟨0, by omega, rfl, rfl, sm_up sm_rf rfl, ho_upE, hC, hz, ⟨Int.le_refl _, by show σ 30 17 ≤ _; omega⟩, UP_0, fun x hx => ⟨fun w => absurd w Wf_0, fun _ => rfl⟩, UP_0, fun k _ => rfl⟩ ?_
  rintro v σ' z ⟨c, hc, rfl, rfl, s1, r0, C1, z1, ck1, u1, u43, u44, u50⟩ KK KE hKK hKE
  have m0 : σ' 30 8 = (M : Int) := (s1 30 8 rfl).trans m8
  by_cases c16 : c < M
  · have hc16 : c < 16 := by omega
    have hx : tv (σ' 42) (σ' 41) (3 * c) = Y c := ((u1 (3 * c) (by omega)).2 (Wf_org (by omega) (by omega))).trans (hY c c16).symm
    have hs : σ' 41 (3 * c + t) = σ 41 (3 * c + t) := congrArg Prod.fst ((u1 (3 * c + t) (by omega)).2 Wf_cur)
    have e43a : σ' 43 (3 * c + t) = σ 43 (3 * c + t) := (u43 (3 * c + t) (by omega)).2 Wf_cur
    have e43b : σ' 43 (3 * c) = σ 43 (3 * c) := (u43 (3 * c) (by omega)).2 (Wf_org (by omega) (by omega))
    have dd := fE_ok (K := K) (H := H) (Y := Y) (c := c) hd hn
    have hHc := hH c c16
    have nle := fN_le (K := K) (H := H) (Y := Y) (E := E) (c := c)
    have zt := z1.1 (3 * c + t) (by omega)
    obtain ⟨n, hnn⟩ : ∃ n : Nat, σ' 41 (3 * c + t) = (n : Int) := ⟨(σ' 41 (3 * c + t)).toNat, by omega⟩
    have no : ¬ fH K H Y E c → KK [30, (t : Int), (fN K H Y E c : Int), ((c + 1 : Nat) : Int)] σ' := fun n => hKK _ _ (M - (c + 1)) (by omega) ⟨c + 1, by omega, by rw [fN_no n], rfl, s1, r0, by rw [fE_no n]; exact C1, z1, ⟨ck1.1, by omega⟩, UP_no u1 n, fun x hx => ⟨fun w => (u43 x hx).1 ((Wf_no n).mp w), fun w => (u43 x hx).2 (fun z => w ((Wf_no n).mpr z))⟩, UP_no u44 n, u50⟩
    simp only [u_eC, u_eV, u_eF, u_eR, u_eI, u_eL, u_eB, u_eD, u_eM, u_eU, u_aN, u_aC, u_eK, u_eT, u_cLt, u_cLe, u_cGt, u_cGe, u_cEq, u_cNe, u_cAnd, u_cOr, u_cNot, u_zN, u_zS, u_zD, u_zL, u_zI, u_zB, u_zP, u_zF, u_zA, u_zU, u_zC, u_zR, u_zRZ, u_zRC, u_zRV, u_zT, u_zE, u_zK, u_zY, ho_nid, List.getD_cons_zero, List.getD_cons_succ, List.set_cons_zero, List.set_cons_succ, List.cons_append, List.nil_append, List.take_succ_cons, List.take_zero, Int.reduceToNat, Int.toNat_natCast, nN_0, nN_1, nN_2, nN_3, nN_4, nN_5, nN_6, nN_7, nN_8, nN_9, nN_10, nN_11, nN_12, nN_13, nN_14, nN_15, nN_16, nN_17, nN_18, nN_19, nN_20, nN_21, nN_22, nN_23, nN_24, nN_25, nN_26, nN_27, nN_28, nN_29, nN_30, nN_31, nN_32, nN_33, nN_34, nN_35, nN_36, nN_37, nN_38, nN_39, nN_40, nN_41, nN_42, nN_43, nN_44, nN_45, nN_46, nN_47, nN_48, nN_49, nN_50, nN_51, nN_52, nN_53, nN_54, nR_0_0, nR_0_1, nR_0_2, nR_0_3, nR_0_4, nR_0_5, nR_0_6, nR_0_7, nR_0_8, nR_0_9, nR_0_10, nR_1_0, nR_1_1, nR_1_2, nR_1_3, nR_1_4, nR_2_0, nR_2_1, nR_2_2, nR_2_3, nR_2_4, nR_3_0, nR_3_1, nR_4_2, nR_5_2, nR_6_0, nR_6_1, nR_6_2, nR_7_0, nR_30_2, nR_30_3, nR_30_4, nR_30_6, nR_30_7, nR_30_9, nR_30_10, nR_30_11, nR_30_12, nR_30_13, nR_30_14, nR_30_15, nR_30_16, nR_30_18, nR_30_19, nR_30_20, nR_30_21, nR_30_22, nR_30_23, nR_30_24, nR_30_28, nR_30_29, nR_30_31, m0, r0, (show ho_omul 3 (c : Int) = ((3 * c : Nat) : Int) from by rw [wmu (by omega) (by omega)]; omega), (show ho_oadd ((3 * c : Nat) : Int) (t : Int) = ((3 * c + t : Nat) : Int) from oad (by omega) (by omega)), (show ho_osub (t : Int) 1 = (m : Int) from by rw [wsu (by omega) (by omega)]; omega), inc (show c < 100000 by omega), inc (show fN K H Y E c < 100000 by omega), sp_isStaleNow hc16 (show t < 3 by omega) hnn, bI_ne, bI_eq]
    simp only [mR_30_2, mR_30_3, mR_30_4, mR_30_6, mR_30_7, mR_30_9, mR_30_10, mR_30_11, mR_30_12, mR_30_13, mR_30_14, mR_30_15, mR_30_16, mR_30_18, mR_30_19, mR_30_20, mR_30_21, mR_30_22, mR_30_23, mR_30_24, mR_30_28, mR_30_29, mR_30_31, mR_0_9, mR_7_0, nN_25, nN_26, nN_27, nN_28, nN_29, nN_30, nN_31, nN_32, nN_33, nN_34, nN_35, nN_36, nN_37, nN_38, nN_39, nN_40, nN_41, nN_42, nN_43, nN_44, nN_45, nN_46, nN_47, nN_48, nN_49, nN_50, nN_51, nN_52, nN_53, nN_54, Int.toNat_natCast, saF, saE, ho_upF, ho_upE, ne_eq, not_false_eq_true, Nat.reduceEqDiff, hnn, e43a, e43b]
    have kf : H c → mX7_keptFor [30, (m : Int), ((3 * c : Nat) : Int)] σ' (fun a σ => (¬ a = -1 → mX7_gets [30, (c : Int), (t : Int), a] σ (fun _ σ => KK [30, (t : Int), ((fN K H Y E c + 1 : Nat) : Int), ((c + 1 : Nat) : Int)] σ) X) ∧ (a = -1 → KK [30, (t : Int), (fN K H Y E c : Int), ((c + 1 : Nat) : Int)] σ)) X := by
      intro y
      obtain ⟨hK, p, p1, p2, p3, p4, p5, p6⟩ := C1
      refine sp_keptFor hm hK (by omega) (by omega) z1 (fun r hr e => ⟨fun _ => ?_, fun w => absurd w (by omega)⟩) (fun hnot => ⟨fun w => absurd rfl w, fun _ => no (fun ⟨_, i, hi, e⟩ => hnot (p i) (p1 i hi) ((p4 i hi).1.trans (e.trans hx.symm)))⟩)
      obtain ⟨i, hi, rfl⟩ := p3 r hr
      have e' : (fE K H Y E c i).1 = Y c := (p4 i hi).1.symm.trans (e.trans hx)
      have yy : fH K H Y E c := ⟨y, i, hi, e'⟩
      refine sp_gets hc16 (by omega) (by omega) z1 rfl (by omega) (by omega) (fun σ2 s2 g1 g2 g17 g43 g50 g44 z2 => ?_)
      refine hKK _ _ (M - (c + 1)) (by omega) ⟨c + 1, by omega, by rw [fN_yes yy], rfl, sm_tr s1 (sm_w s2 pFm_gt), (s2 30 0 rfl).trans r0, ?_, z2, ⟨by rw [g17]; omega, by rw [g17]; omega⟩, UP_yes u1 yy (fun x hx q => ?_) (fun x hx q => ?_), fun x hx => ?_, UP_yes u44 yy (fun x hx q => ?_) (fun x hx q => ?_), fun k hk => ?_⟩
      · rw [fE_yes dd.1 y hi e']
        refine ⟨(s2 45 m rfl).trans hK, ?_⟩
        rw [g17, sm_fn s2 46 (fun _ => rfl), sm_fn s2 47 (fun _ => rfl), sm_fn s2 48 (fun _ => rfl), sm_fn s2 49 (fun _ => rfl)]
        refine RF_put (us := fun r => σ' 50 (9 * m + r)) (s := p i) p1 p2 p3 p4 p5 p6 (Or.inl ⟨hi, rfl, rfl⟩) (by omega) ?_ (p4 i hi) (fun x hx hxs => ⟨rfl, rfl, ?_⟩)
        · show σ2 50 (9 * m + p i) = _
          rw [g50, if_pos rfl]
        · show σ2 50 (9 * m + x) = σ' 50 (9 * m + x)
          rw [g50, if_neg (by omega)]
      · have q : x = 3 * c + t := q
        rw [q, g1, fA_at dd.1 y hi e' (by omega)]
        exact (p4 i hi).2
      · exact g2 x hx q
      · rw [g43, g17]
        by_cases q : x = 3 * c + t
        · rw [if_pos q]
          exact ⟨fun _ => ⟨by omega, by omega⟩, fun w => absurd (by rw [q]; exact Wf_self yy) w⟩
        · rw [if_neg q]
          refine ⟨fun w => ?_, fun w => (u43 x hx).2 (fun z => w ((Wf_ne q).mpr z))⟩
          have := (u43 x hx).1 ((Wf_ne q).mp w)
          exact ⟨this.1, by omega⟩
      · have q : x / 8 = 3 * c + t := q
        rw [g44]
        exact if_pos (by omega)
      · have q : ¬ x / 8 = 3 * c + t := q
        rw [g44]
        exact if_neg (by omega)
      · have hp := p1 i hi
        rw [g50, if_neg (by omega)]
        exact u50 k hk
    refine ⟨fun _ => ⟨fun _ => ⟨by omega, fun a0 => ⟨by omega, fun a1 => ⟨fun _ => kf (hHc.mpr (Or.inl ?_)), fun w => absurd w (by decide)⟩, fun a1 => ⟨fun a2 => ⟨fun _ => kf (hHc.mpr (Or.inr a2.2.2)), fun w => absurd w (by decide)⟩, fun a2 => ⟨fun w => absurd trivial w, fun _ => ⟨fun w => absurd trivial w, fun _ => no ?_⟩⟩⟩⟩, fun a0 => ⟨fun w => absurd trivial w, fun _ => ⟨fun w => absurd trivial w, fun _ => no ?_⟩⟩⟩, fun w => absurd trivial w⟩, fun w => absurd w (by omega)⟩
    · rw [← hs, hnn]; exact a1
    · exact fun q => (hHc.mp q.1).elim (fun z => a1 (by rw [← hnn, hs]; exact z)) (fun z => a2 ⟨by omega, by omega, z⟩)
    · rintro ⟨_, i, hi, e⟩
      refine dd.2 i hi ?_
      rw [e, ← hx]
      show σ' 41 (3 * c) = 0
      have := (z1.1 (3 * c) (by omega)).1
      omega
  · simp only [u_eC, u_eV, u_eF, u_eR, u_eI, u_eL, u_eB, u_eD, u_eM, u_eU, u_aN, u_aC, u_eK, u_eT, u_cLt, u_cLe, u_cGt, u_cGe, u_cEq, u_cNe, u_cAnd, u_cOr, u_cNot, u_zN, u_zS, u_zD, u_zL, u_zI, u_zB, u_zP, u_zF, u_zA, u_zU, u_zC, u_zR, u_zRZ, u_zRC, u_zRV, u_zT, u_zE, u_zK, u_zY, ho_nid, List.getD_cons_zero, List.getD_cons_succ, List.set_cons_zero, List.set_cons_succ, List.cons_append, List.nil_append, List.take_succ_cons, List.take_zero, Int.reduceToNat, Int.toNat_natCast, nN_0, nN_1, nN_2, nN_3, nN_4, nN_5, nN_6, nN_7, nN_8, nN_9, nN_10, nN_11, nN_12, nN_13, nN_14, nN_15, nN_16, nN_17, nN_18, nN_19, nN_20, nN_21, nN_22, nN_23, nN_24, nN_25, nN_26, nN_27, nN_28, nN_29, nN_30, nN_31, nN_32, nN_33, nN_34, nN_35, nN_36, nN_37, nN_38, nN_39, nN_40, nN_41, nN_42, nN_43, nN_44, nN_45, nN_46, nN_47, nN_48, nN_49, nN_50, nN_51, nN_52, nN_53, nN_54, nR_0_0, nR_0_1, nR_0_2, nR_0_3, nR_0_4, nR_0_5, nR_0_6, nR_0_7, nR_0_8, nR_0_9, nR_0_10, nR_1_0, nR_1_1, nR_1_2, nR_1_3, nR_1_4, nR_2_0, nR_2_1, nR_2_2, nR_2_3, nR_2_4, nR_3_0, nR_3_1, nR_4_2, nR_5_2, nR_6_0, nR_6_1, nR_6_2, nR_7_0, nR_30_2, nR_30_3, nR_30_4, nR_30_6, nR_30_7, nR_30_9, nR_30_10, nR_30_11, nR_30_12, nR_30_13, nR_30_14, nR_30_15, nR_30_16, nR_30_18, nR_30_19, nR_30_20, nR_30_21, nR_30_22, nR_30_23, nR_30_24, nR_30_28, nR_30_29, nR_30_31, m0, r0]
    have cM : c = M := by omega
    subst cM
    exact ⟨fun w => absurd w (by omega), fun _ => hKE _ (h σ' s1 r0 C1 z1 ck1 u1 u43 u44 u50)⟩
