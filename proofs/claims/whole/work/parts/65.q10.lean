def pFd (k _ : Nat) : Bool := Nat.beq k 13 || (Nat.beq k 14 || (Nat.beq k 15 || (Nat.beq k 16 || Nat.beq k 17)))
def pFi (k j : Nat) : Bool := pSc k j || (pFd k j || (Nat.beq k 8 || (Nat.beq k 10 || (Nat.beq k 12 || (Nat.beq k 31 || (Nat.beq k 34 || (Nat.beq k 32 || (Nat.beq k 33 || (Nat.beq k 37 || (Nat.beq k 38 || ((Nat.beq k 1 && (Nat.beq j 5 || Nat.beq j 6)) || (Nat.beq k 30 && (Nat.beq j 1 || Nat.beq j 5)))))))))))))
theorem pFi_sc : ∀ k j, pSc k j = true → pFi k j = true := fun k j z => by unfold pFi; rw [z]; rfl
theorem pFi_fd : ∀ k j, pFd k j = true → pFi k j = true := fun k j z => by unfold pFi; rw [z]; simp
theorem Inv_fi {σ υ : ho_S} {j S N M S' N' : Nat} (hj : j < 512) (h1 : GS S N M σ) (h5 : GL S M σ) (h7 : GK σ) (h8 : GX σ) (h9 : GB j σ) (h10 : GN σ) (h11 : GM j 0 4 20 48 σ) (h12 : GM j 1 5 21 64 σ) (h13 : GW σ) (us : sm pFi σ υ) (g1 : υ 1 5 = (S' : Int) ∧ υ 30 1 = (S' : Int) ∧ υ 1 6 = (N' : Int) ∧ υ 30 5 = (N' : Int)) (g2 : GF S' N' υ) (g3 : GPc S' N' υ) (g4 : GPm S' N' υ) (g5 : S ≤ S') (g33 : υ 33 = σ 33)
    (t1 : ∀ c, c < 16 → LR (fun i => bit (σ 33 (υ 34 i).toNat) c = true) N' (υ 13 c) (υ 14 c)) (t2 : ∀ c, c < M → LR (fun i => bit (σ 33 (υ 34 i).toNat) c = true) N' (υ 37 c) (υ 38 c)) (t3 : ∀ c, c < 16 → 0 ≤ υ 15 c ∧ υ 15 c ≤ 4800) : hi_Inv (j + 1) υ := by
  have hM := h1.2.2.2.2.2.2
  refine ⟨by omega, S', N', M, ⟨g1.1, g1.2.1, g1.2.2.1, g1.2.2.2, (us 0 11 rfl).trans h1.2.2.2.2.1, (us 30 8 rfl).trans h1.2.2.2.2.2.1, hM⟩, g2, g3, g4, ⟨by rw [g33]; exact h5.1, by rw [g33, sm_fn us 11 (fun _ => rfl)]; exact h5.2.1, by rw [g33]; exact fun m a b => h5.2.2.1 m (by omega) b, by rw [g33]; exact h5.2.2.2⟩, ⟨fun c hc => ?_, fun c c1 c2 => ?_, t3⟩, GK_sm h7 us (fun _ => ⟨rfl, rfl⟩), GX_sm h8 us (fun _ => ⟨rfl, rfl, rfl, rfl, rfl, rfl⟩), GB_sm h9 us (fun _ => ⟨rfl, rfl⟩) rfl, GN_sm h10 us (fun _ => ⟨rfl, rfl⟩), GM_sm h11 us (by omega) (by omega) (fun _ => ⟨rfl, rfl, rfl, rfl, rfl, rfl, rfl, rfl, rfl, rfl⟩) rfl, GM_sm h12 us (by omega) (by omega) (fun _ => ⟨rfl, rfl, rfl, rfl, rfl, rfl, rfl, rfl, rfl, rfl⟩) rfl, GW_sm h13 us ⟨rfl, rfl, rfl, rfl⟩⟩
  · have u := LR_uniq (t1 c (by omega)) (t2 c hc)
    rw [g33]
    exact ⟨u.1, u.2, t2 c hc⟩
  · have t := t1 c c2
    rcases t with ⟨a, b, _⟩ | ⟨a, b, d, e, _⟩
    · exact ⟨b, a⟩
    · have q : bit (σ 33 (υ 34 (υ 13 c).toNat).toNat) c = true := e (υ 13 c).toNat (by omega) (by omega)
      have f := g2.2.2.2.1 (υ 13 c).toNat (by omega)
      rw [h5.2.2.2 _ (by omega) c c1 c2] at q
      cases q
theorem c_find {S M N' : Nat} {F' : Nat → Int} {σ σ1 : ho_S} {Q : ho_K} {X : ho_X} (h16 : σ1 1 6 = (N' : Int)) (hN : N' ≤ 4800) (hF : FR (σ1 8) F' N') (h11 : σ1 11 = σ 11) (h5 : GL S M σ) (h15 : ∀ c, c < 16 → 0 ≤ σ1 15 c ∧ σ1 15 c ≤ 4800)
    (h : ∀ υ, sm pFd σ1 υ → (∀ c, c < 16 → LR (fun i => bit (σ 33 (F' i).toNat) c = true) N' (υ 13 c) (υ 14 c)) → (∀ c, c < 16 → 0 ≤ υ 15 c ∧ υ 15 c ≤ 4800) → Q (cnt (fun c => decide (υ 13 c ≠ σ1 13 c) || decide (υ 14 c ≠ σ1 14 c)) 16) υ) : mX5_find [2, 1] σ1 Q X := by
  have mk : ∀ i : Nat, (i < N' → mkA σ1 (i : Int) = σ 33 (F' i).toNat) ∧ (N' ≤ i → mkA σ1 (i : Int) = 0) := fun i => by
    refine ⟨fun hi => ?_, fun hi => mkA_out (by rw [h16]; omega)⟩
    have k := hF i hi
    unfold mkA
    rw [h16, if_pos (by omega), Int.toNat_natCast, if_pos (by omega), h11, ← h5.2.1 (F' i).toNat (by omega)]
    congr 1
    omega
  refine sp_find h16 hN (fun i => ?_) h15 (fun a b l ha hLR => ?_)
  · by_cases z : i < N'
    · rw [(mk i).1 z]
      have k := hF i z
      exact h5.1 _ (by omega)
    · rw [(mk i).2 (by omega)]; exact ⟨0, rfl, by omega⟩
  obtain ⟨υ, hυ⟩ : ∃ υ, υ = sa (sa (tri σ1 a b l) 13 (fun c => if c < 16 then b c else σ1 13 c)) 14 (fun c => if c < 16 then l c else σ1 14 c) := ⟨_, rfl⟩
  have u13 : ∀ c, c < 16 → υ 13 c = b c := fun c hc => by rw [hυ, saF (show (13 : Nat) ≠ 14 by decide), saE]; exact if_pos hc
  have u14 : ∀ c, c < 16 → υ 14 c = l c := fun c hc => by rw [hυ, saE]; exact if_pos hc
  have u15 : υ 15 = a := by rw [hυ, saF (show (15 : Nat) ≠ 14 by decide), saF (show (15 : Nat) ≠ 13 by decide)]; unfold tri; rw [saF (show (15 : Nat) ≠ 17 by decide), saF (show (15 : Nat) ≠ 16 by decide), saE]
  have us : sm pFd σ1 υ := by rw [hυ]; exact sm_sa (sm_sa (by unfold tri; exact sm_sa (sm_sa (sm_sa sm_rf (fun _ => rfl)) (fun _ => rfl)) (fun _ => rfl)) (fun _ => rfl)) (fun _ => rfl)
  have r := h υ us (fun c hc => by
    rw [u13 c hc, u14 c hc]
    refine LR_congr (fun i hi => ?_) (hLR c hc)
    rw [(mk i).1 hi]) (fun c hc => by rw [u15]; exact ha c hc)
  have e : cnt (fun c => decide (υ 13 c ≠ σ1 13 c) || decide (υ 14 c ≠ σ1 14 c)) 16 = cnt (fun c => decide (b c ≠ σ1 13 c) || decide (l c ≠ σ1 14 c)) 16 := cnt_congr (fun c hc => by rw [u13 c hc, u14 c hc])
  rw [e, hυ] at r
  exact r
theorem plc_rn {k' pl : Nat → Int} {a N' : Nat} {x : Int} (hx : 0 ≤ x) (ha : a ≤ N') (hk : ∀ i, i < N' → 0 ≤ k' i) (inj : ∀ i i', i < N' → i' < N' → k' i = k' i' → i = i') (h : (∀ i, a ≤ i → i < N' → k' i ≠ x) → (∃ i, i < a ∧ k' i = x ∧ pl x.toNat = (i : Int)) ∨ ((∀ i, i < a → k' i ≠ x) ∧ pl x.toNat = -1)) : PLC k' N' x (rnum k' pl a (N' - a) x.toNat) := by
  by_cases z : ∃ i, a ≤ i ∧ i < N' ∧ k' i = x
  · obtain ⟨i, i1, i2, i3⟩ := z
    refine Or.inl ⟨i, i2, i3, ?_⟩
    have q := rnum_hit (keys := k') (pl := pl) (a := a) (n := N' - a) (i := i - a) (by omega) (fun u v hu hv e => by
      have a1 := hk (a + u) (by omega)
      have a2 := hk (a + v) (by omega)
      have := inj (a + u) (a + v) (by omega) (by omega) (by omega)
      omega)
    rw [show a + (i - a) = i by omega, i3] at q
    exact q
  · have no : ∀ i, a ≤ i → i < N' → k' i ≠ x := fun i i1 i2 i3 => z ⟨i, i1, i2, i3⟩
    rw [rnum_miss (fun i hi e => no (a + i) (by omega) (by omega) (by have := hk (a + i) (by omega); omega))]
    rcases h no with ⟨i, i1, i2, i3⟩ | ⟨i1, i2⟩
    · exact Or.inl ⟨i, by omega, i2, i3⟩
    · refine Or.inr ⟨fun i hi e => ?_, i2⟩
      by_cases y : i < a
      · exact i1 i y e
      · exact no i (by omega) hi e
theorem plc_md {f g : Nat → Int} {N' : Nat} {x : Int} (hx : 0 ≤ x) (hk : ∀ i, i < N' → 0 ≤ f i) (inj : ∀ i i', i < N' → i' < N' → f i = f i' → i = i') (hg : g x.toNat = -1) : PLC f N' x (rnum f g 0 N' x.toNat) := by
  have h := plc_rn (k' := f) (pl := g) (a := 0) (N' := N') hx (by omega) hk inj (fun _ => Or.inr ⟨fun i hi => by omega, hg⟩)
  rw [Nat.sub_zero] at h
  exact h
theorem nfit {S N' : Nat} {F : Nat → Int} (h0 : ∀ i, i < N' → 0 ≤ F i ∧ F i < 400 * (S : Int)) (inj : ∀ i i', i < N' → i' < N' → F i = F i' → i = i') : N' ≤ 400 * S :=
  pigeon (400 * S) N' (fun i => (F i).toNat) (fun i hi => by have := h0 i hi; omega) (fun i i' hi hi' e => inj i i' hi hi' (by have := h0 i hi; have := h0 i' hi'; omega))
/-- the model, after its film has changed: settled -/
theorem m_settles {S' N' M : Nat} {F' : Nat → Int} {τ : ho_S} {Q : ho_K} {X : ho_X} (hS : τ 30 1 = (S' : Int)) (hS12 : S' ≤ 12) (hN' : τ 30 5 = (N' : Int)) (hN : N' ≤ 4800) (hM : τ 30 8 = (M : Int)) (hM16 : M ≤ 16) (hf : ∀ i, i < N' → τ 34 i = F' i) (hF : ∀ i, i < N' → 0 ≤ F' i ∧ F' i < 4800) (inj : ∀ i i', i < N' → i' < N' → F' i = F' i' → i = i') (h33 : bitsOK (τ 33))
    (h : ∀ υ, sm (fun k _ => Nat.beq k 32 || (Nat.beq k 37 || Nat.beq k 38)) τ υ → (∀ x : Int, 0 ≤ x → x < 400 * (S' : Int) → PLC F' N' x (υ 32 x.toNat)) → (∀ c, c < M → LR (fun i => bit (τ 33 (F' i).toNat) c = true) N' (υ 37 c) (υ 38 c)) → Q 0 υ) : mX7_settles [30] τ Q X := by
  refine sp_settles (n := N') (m := M) (by rw [hS]; omega) (by rw [hS]; omega) hN' hN hM hM16 (fun i hi => by rw [hf i hi]; exact hF i hi) h33 (fun a b h1 _ => ?_)
  refine h _ (sm_sa (sm_sa (sm_sa sm_rf (fun _ => rfl)) (fun _ => rfl)) (fun _ => rfl)) (fun x x0 x1 => ?_) (fun c hc => ?_)
  · show PLC F' N' x (rnum (τ 34) (fun k => if (k : Int) < 400 * τ 30 1 then -1 else τ 32 k) 0 N' x.toNat)
    have p := plc_md (f := τ 34) (g := fun k => if (k : Int) < 400 * τ 30 1 then -1 else τ 32 k) (N' := N') (x := x) x0 (fun i hi => by rw [hf i hi]; exact (hF i hi).1) (fun i i' hi hi' e => inj i i' hi hi' (by rw [← hf i hi, ← hf i' hi']; exact e)) (if_pos (by rw [hS]; omega))
    rcases p with ⟨i, i1, i2, i3⟩ | ⟨i1, i2⟩
    · exact Or.inl ⟨i, i1, by rw [← hf i i1]; exact i2, i3⟩
    · exact Or.inr ⟨fun i hi => by rw [← hf i hi]; exact i1 i hi, i2⟩
  · show LR _ N' (a c) (b c)
    refine LR_congr (fun i hi => ?_) (h1 c hc)
    rw [hf i hi]
theorem PLC_F {F G : Nat → Int} {N : Nat} {x p : Int} (h : PLC F N x p) (e : ∀ i, i < N → G i = F i) : PLC G N x p := by
  rcases h with ⟨i, i1, i2, i3⟩ | ⟨i1, i2⟩
  · exact Or.inl ⟨i, i1, by rw [e i i1]; exact i2, i3⟩
  · exact Or.inr ⟨fun i hi => by rw [e i hi]; exact i1 i hi, i2⟩

theorem op_cut {j : Nat} {σ : ho_S} {f n : Int} (hj : j < 512) (hI : hi_Inv j σ) : mX6_cut [0, f, n] σ (fun a σ => mX7_cut [30, f, n] (ho_up σ 54 0 a) (fun b σ => σ 30 0 = 0 ∧ σ 54 0 = b ∧ hi_Inv (j + 1) σ) (fun _ _ => False)) (fun ec σ => (ec = 2 ∧ mX7_cut [30, f, n] σ (fun _ σ => σ 30 0 = 1 ∧ hi_Inv (j + 1) σ) (fun _ _ => False)) ∨ (ec = 0 ∧ mX7_cut [30, f, n] σ (fun _ σ => σ 30 0 = 2 ∧ hi_Inv (j + 1) σ) (fun _ _ => False))) := by
  have hI0 := hI
  obtain ⟨_, S, N, M, h1, h2, h3, h4, h5, h6, h7, h8, h9, h10, h11, h12, h13⟩ := hI
  have hM := h1.2.2.2.2.2.2
  have hN : N ≤ 4800 := by have := h2.1; have := h2.2.1; omega
  have e5 := h1.2.2.2.1
  have thr1 : ¬ (0 ≤ f ∧ f < (N : Int)) → mX7_cut [30, f, n] σ (fun _ σ => σ 30 0 = 1 ∧ hi_Inv (j + 1) σ) (fun _ _ => False) := by
    intro c
    simp only [mX7_cut, fX7_cut, u_eC, u_eV, u_eF, u_eR, u_eI, u_eL, u_eB, u_eD, u_eM, u_eU, u_aN, u_aC, u_eK, u_eT, u_cLt, u_cLe, u_cGt, u_cGe, u_cEq, u_cNe, u_cAnd, u_cOr, u_cNot, u_zN, u_zS, u_zD, u_zL, u_zI, u_zB, u_zP, u_zF, u_zA, u_zU, u_zC, u_zR, u_zRZ, u_zRC, u_zRV, u_zT, u_zE, u_zK, u_zY, ho_nid, List.getD_cons_zero, List.getD_cons_succ, List.set_cons_zero, List.set_cons_succ, List.cons_append, List.nil_append, List.take_succ_cons, List.take_zero, Int.reduceToNat, Int.toNat_natCast, nN_0, nN_1, nN_2, nN_3, nN_4, nN_5, nN_6, nN_7, nN_8, nN_9, nN_10, nN_11, nN_12, nN_13, nN_14, nN_15, nN_16, nN_17, nN_18, nN_19, nN_20, nN_21, nN_22, nN_23, nN_24, nN_25, nN_26, nN_27, nN_28, nN_29, nN_30, nN_31, nN_32, nN_33, nN_34, nN_35, nN_36, nN_37, nN_38, nN_39, nN_40, nN_41, nN_42, nN_43, nN_44, nN_45, nN_46, nN_47, nN_48, nN_49, nN_50, nN_51, nN_52, nN_53, nN_54, nR_0_0, nR_0_1, nR_0_2, nR_0_3, nR_0_4, nR_0_5, nR_0_6, nR_0_7, nR_0_8, nR_0_9, nR_0_10, nR_1_0, nR_1_1, nR_1_2, nR_1_3, nR_1_4, nR_2_0, nR_2_1, nR_2_2, nR_2_3, nR_2_4, nR_3_0, nR_3_1, nR_4_2, nR_5_2, nR_6_0, nR_6_1, nR_6_2, nR_7_0, nR_30_2, nR_30_3, nR_30_4, nR_30_6, nR_30_7, nR_30_9, nR_30_10, nR_30_11, nR_30_12, nR_30_13, nR_30_14, nR_30_15, nR_30_16, nR_30_18, nR_30_19, nR_30_20, nR_30_21, nR_30_22, nR_30_23, nR_30_24, nR_30_28, nR_30_29, nR_30_31, sp_isPlace (σ := σ) (show 0 ≤ σ 30 5 by rw [e5]; omega) (show σ 30 5 ≤ 4800 by rw [e5]; omega), zlt, zle, zl1, zl2, zl3, z1l, z2l, z3l, z1e, z2e, z3e, z1n, z2n, z3n, z0n, z0e, true_implies, false_implies, and_true, true_and, ho_upE, bI_ne, bI_eq, true_or, or_true, e5]
    exact ⟨fun w => absurd w c, fun _ => Inv_sc hj hI0 (sm_up sm_rf rfl)⟩
  have thr2 : (0 ≤ f ∧ f < (N : Int)) → n < 1 → mX7_cut [30, f, n] σ (fun _ σ => σ 30 0 = 2 ∧ hi_Inv (j + 1) σ) (fun _ _ => False) := by
    intro c d
    simp only [mX7_cut, fX7_cut, u_eC, u_eV, u_eF, u_eR, u_eI, u_eL, u_eB, u_eD, u_eM, u_eU, u_aN, u_aC, u_eK, u_eT, u_cLt, u_cLe, u_cGt, u_cGe, u_cEq, u_cNe, u_cAnd, u_cOr, u_cNot, u_zN, u_zS, u_zD, u_zL, u_zI, u_zB, u_zP, u_zF, u_zA, u_zU, u_zC, u_zR, u_zRZ, u_zRC, u_zRV, u_zT, u_zE, u_zK, u_zY, ho_nid, List.getD_cons_zero, List.getD_cons_succ, List.set_cons_zero, List.set_cons_succ, List.cons_append, List.nil_append, List.take_succ_cons, List.take_zero, Int.reduceToNat, Int.toNat_natCast, nN_0, nN_1, nN_2, nN_3, nN_4, nN_5, nN_6, nN_7, nN_8, nN_9, nN_10, nN_11, nN_12, nN_13, nN_14, nN_15, nN_16, nN_17, nN_18, nN_19, nN_20, nN_21, nN_22, nN_23, nN_24, nN_25, nN_26, nN_27, nN_28, nN_29, nN_30, nN_31, nN_32, nN_33, nN_34, nN_35, nN_36, nN_37, nN_38, nN_39, nN_40, nN_41, nN_42, nN_43, nN_44, nN_45, nN_46, nN_47, nN_48, nN_49, nN_50, nN_51, nN_52, nN_53, nN_54, nR_0_0, nR_0_1, nR_0_2, nR_0_3, nR_0_4, nR_0_5, nR_0_6, nR_0_7, nR_0_8, nR_0_9, nR_0_10, nR_1_0, nR_1_1, nR_1_2, nR_1_3, nR_1_4, nR_2_0, nR_2_1, nR_2_2, nR_2_3, nR_2_4, nR_3_0, nR_3_1, nR_4_2, nR_5_2, nR_6_0, nR_6_1, nR_6_2, nR_7_0, nR_30_2, nR_30_3, nR_30_4, nR_30_6, nR_30_7, nR_30_9, nR_30_10, nR_30_11, nR_30_12, nR_30_13, nR_30_14, nR_30_15, nR_30_16, nR_30_18, nR_30_19, nR_30_20, nR_30_21, nR_30_22, nR_30_23, nR_30_24, nR_30_28, nR_30_29, nR_30_31, sp_isPlace (σ := σ) (show 0 ≤ σ 30 5 by rw [e5]; omega) (show σ 30 5 ≤ 4800 by rw [e5]; omega), zlt, zle, zl1, zl2, zl3, z1l, z2l, z3l, z1e, z2e, z3e, z1n, z2n, z3n, z0n, z0e, true_implies, false_implies, and_true, true_and, ho_upE, bI_ne, bI_eq, true_or, or_true, e5]
    exact ⟨fun _ => ⟨fun _ => Inv_sc hj hI0 (sm_up sm_rf rfl), fun w => by omega⟩, fun w => absurd c w⟩
  have thr3 : (0 ≤ f ∧ f < (N : Int)) → 1 ≤ n → ¬ n ≤ (N : Int) - f → mX7_cut [30, f, n] σ (fun _ σ => σ 30 0 = 1 ∧ hi_Inv (j + 1) σ) (fun _ _ => False) := by
    intro c d e
    simp only [mX7_cut, fX7_cut, u_eC, u_eV, u_eF, u_eR, u_eI, u_eL, u_eB, u_eD, u_eM, u_eU, u_aN, u_aC, u_eK, u_eT, u_cLt, u_cLe, u_cGt, u_cGe, u_cEq, u_cNe, u_cAnd, u_cOr, u_cNot, u_zN, u_zS, u_zD, u_zL, u_zI, u_zB, u_zP, u_zF, u_zA, u_zU, u_zC, u_zR, u_zRZ, u_zRC, u_zRV, u_zT, u_zE, u_zK, u_zY, ho_nid, List.getD_cons_zero, List.getD_cons_succ, List.set_cons_zero, List.set_cons_succ, List.cons_append, List.nil_append, List.take_succ_cons, List.take_zero, Int.reduceToNat, Int.toNat_natCast, nN_0, nN_1, nN_2, nN_3, nN_4, nN_5, nN_6, nN_7, nN_8, nN_9, nN_10, nN_11, nN_12, nN_13, nN_14, nN_15, nN_16, nN_17, nN_18, nN_19, nN_20, nN_21, nN_22, nN_23, nN_24, nN_25, nN_26, nN_27, nN_28, nN_29, nN_30, nN_31, nN_32, nN_33, nN_34, nN_35, nN_36, nN_37, nN_38, nN_39, nN_40, nN_41, nN_42, nN_43, nN_44, nN_45, nN_46, nN_47, nN_48, nN_49, nN_50, nN_51, nN_52, nN_53, nN_54, nR_0_0, nR_0_1, nR_0_2, nR_0_3, nR_0_4, nR_0_5, nR_0_6, nR_0_7, nR_0_8, nR_0_9, nR_0_10, nR_1_0, nR_1_1, nR_1_2, nR_1_3, nR_1_4, nR_2_0, nR_2_1, nR_2_2, nR_2_3, nR_2_4, nR_3_0, nR_3_1, nR_4_2, nR_5_2, nR_6_0, nR_6_1, nR_6_2, nR_7_0, nR_30_2, nR_30_3, nR_30_4, nR_30_6, nR_30_7, nR_30_9, nR_30_10, nR_30_11, nR_30_12, nR_30_13, nR_30_14, nR_30_15, nR_30_16, nR_30_18, nR_30_19, nR_30_20, nR_30_21, nR_30_22, nR_30_23, nR_30_24, nR_30_28, nR_30_29, nR_30_31, sp_isPlace (σ := σ) (show 0 ≤ σ 30 5 by rw [e5]; omega) (show σ 30 5 ≤ 4800 by rw [e5]; omega), sp_areFrames (σ := σ) (show 0 ≤ σ 30 5 by rw [e5]; omega) (show σ 30 5 ≤ 4800 by rw [e5]; omega) c.1 (show f ≤ σ 30 5 by rw [e5]; omega), zlt, zle, zl1, zl2, zl3, z1l, z2l, z3l, z1e, z2e, z3e, z1n, z2n, z3n, z0n, z0e, true_implies, false_implies, and_true, true_and, ho_upE, bI_ne, bI_eq, true_or, or_true, e5]
    exact ⟨fun _ => ⟨fun w => by omega, fun _ => ⟨fun w => absurd w e, fun _ => Inv_sc hj hI0 (sm_up sm_rf rfl)⟩⟩, fun w => absurd c w⟩
  simp only [mX6_cut, fX6_cut, u_eC, u_eV, u_eF, u_eR, u_eI, u_eL, u_eB, u_eD, u_eM, u_eU, u_aN, u_aC, u_eK, u_eT, u_cLt, u_cLe, u_cGt, u_cGe, u_cEq, u_cNe, u_cAnd, u_cOr, u_cNot, u_zN, u_zS, u_zD, u_zL, u_zI, u_zB, u_zP, u_zF, u_zA, u_zU, u_zC, u_zR, u_zRZ, u_zRC, u_zRV, u_zT, u_zE, u_zK, u_zY, ho_nid, List.getD_cons_zero, List.getD_cons_succ, List.set_cons_zero, List.set_cons_succ, List.cons_append, List.nil_append, List.take_succ_cons, List.take_zero, Int.reduceToNat, Int.toNat_natCast, nN_0, nN_1, nN_2, nN_3, nN_4, nN_5, nN_6, nN_7, nN_8, nN_9, nN_10, nN_11, nN_12, nN_13, nN_14, nN_15, nN_16, nN_17, nN_18, nN_19, nN_20, nN_21, nN_22, nN_23, nN_24, nN_25, nN_26, nN_27, nN_28, nN_29, nN_30, nN_31, nN_32, nN_33, nN_34, nN_35, nN_36, nN_37, nN_38, nN_39, nN_40, nN_41, nN_42, nN_43, nN_44, nN_45, nN_46, nN_47, nN_48, nN_49, nN_50, nN_51, nN_52, nN_53, nN_54, nR_0_0, nR_0_1, nR_0_2, nR_0_3, nR_0_4, nR_0_5, nR_0_6, nR_0_7, nR_0_8, nR_0_9, nR_0_10, nR_1_0, nR_1_1, nR_1_2, nR_1_3, nR_1_4, nR_2_0, nR_2_1, nR_2_2, nR_2_3, nR_2_4, nR_3_0, nR_3_1, nR_4_2, nR_5_2, nR_6_0, nR_6_1, nR_6_2, nR_7_0, nR_30_2, nR_30_3, nR_30_4, nR_30_6, nR_30_7, nR_30_9, nR_30_10, nR_30_11, nR_30_12, nR_30_13, nR_30_14, nR_30_15, nR_30_16, nR_30_18, nR_30_19, nR_30_20, nR_30_21, nR_30_22, nR_30_23, nR_30_24, nR_30_28, nR_30_29, nR_30_31, sp_needPlace, sp_fsize, sp_needSome, h1.2.2.1]
  by_cases c1 : 0 ≤ f ∧ f < (N : Int)
  · rw [if_pos c1, wsu (by omega) (by omega)]
    refine ⟨fun z => Or.inl ⟨by trivial, thr3 c1 (by omega) (by omega)⟩, fun z => ?_⟩
    by_cases c2 : 1 ≤ n
    · rw [if_pos c2]
      obtain ⟨a, rfl⟩ : ∃ q : Nat, f = (q : Int) := ⟨f.toNat, by omega⟩
      obtain ⟨n, rfl⟩ : ∃ q : Nat, n = (q : Int) := ⟨n.toNat, by omega⟩
      obtain ⟨F', hF'⟩ : ∃ F' : Nat → Int, ∀ i, F' i = if i < a then σ 34 i else σ 34 (i + n) := ⟨_, fun _ => rfl⟩
      have old := h2.2.2.2.1
      have keys : ∀ i : Nat, i < N → 0 ≤ σ 8 i ∧ σ 8 i < 4812 := fun i hi => by have := old i hi; omega
      have Fo : ∀ i, i < N - n → ∃ i0, i0 < N ∧ F' i = σ 34 i0 ∧ ((i < a ∧ i0 = i) ∨ (a ≤ i ∧ i0 = i + n)) := fun i hi => by
        by_cases y : i < a
        · exact ⟨i, by omega, by rw [hF', if_pos y], Or.inl ⟨y, rfl⟩⟩
        · exact ⟨i + n, by omega, by rw [hF', if_neg y], Or.inr ⟨by omega, rfl⟩⟩
      have Finj : ∀ i i', i < N - n → i' < N - n → F' i = F' i' → i = i' := fun i i' hi hi' e => by
        obtain ⟨x, x1, x2, x3⟩ := Fo i hi
        obtain ⟨y, y1, y2, y3⟩ := Fo i' hi'
        have := h2.2.2.2.2.2 x y x1 y1 (by rw [← x2, ← y2]; exact e)
        omega
      refine sp_takeOut (by omega) (by omega) (by rw [h1.2.2.1]; omega) (by rw [h1.2.2.1]; omega) (fun i hi => keys i (by rw [h1.2.2.1] at hi; omega)) (fun k' pl k1 p1 p2 => ?_)
      simp only [Int.toNat_natCast] at p1 p2
      rw [h1.2.2.1] at k1 ⊢
      rw [show ((N : Int) - (n : Int)) = ((N - n : Nat) : Int) by omega] at k1 ⊢
      rw [show (((N - n : Nat) : Int) - (a : Int)).toNat = (N - n) - a by omega, Int.toNat_natCast]
      have kk : ∀ i, i < N - n → k' i = if i < a then σ 8 i else σ 8 (i + n) := fun i hi => by
        rw [k1 i]
        by_cases y : i < a
        · rw [if_neg (by omega), if_pos y]
        · rw [if_pos (by omega), if_neg y, Int.toNat_natCast]
      have kFR : FR k' F' (N - n) := fun i hi => by
        rw [kk i hi, hF']
        by_cases y : i < a
        · rw [if_pos y, if_pos y]; exact old i (by omega)
        · rw [if_neg y, if_neg y]; exact old (i + n) (by omega)
      have kinj : ∀ i i', i < N - n → i' < N - n → k' i = k' i' → i = i' := fun i i' hi hi' e => by
        have u := kFR i hi
        have v := kFR i' hi'
        exact Finj i i' hi hi' (by omega)
      obtain ⟨σ1, hσ1⟩ : ∃ σ1, σ1 = sa (ho_up (sa σ 8 k') 1 6 ((N - n : Nat) : Int)) 10 (rnum k' pl a (N - n - a)) := ⟨_, rfl⟩
      have v8 : σ1 8 = k' := by rw [hσ1, saF (show (8 : Nat) ≠ 10 by decide), ho_upF (show (8 : Nat) ≠ 1 by decide), saE]
      have v10 : σ1 10 = rnum k' pl a (N - n - a) := by rw [hσ1, saE]
      have v16 : σ1 1 6 = ((N - n : Nat) : Int) := by rw [hσ1, saF (show (1 : Nat) ≠ 10 by decide), ho_upE]
      have v15 : σ1 1 5 = (S : Int) := by rw [hσ1, saF (show (1 : Nat) ≠ 10 by decide), ho_upJ (show (5 : Nat) ≠ 6 by decide), saF (show (1 : Nat) ≠ 8 by decide)]; exact h1.1
      have vk : ∀ k, k ≠ 10 → k ≠ 1 → k ≠ 8 → σ1 k = σ k := fun k a1 a2 a3 => by rw [hσ1, saF a1, ho_upF a2, saF a3]
      have s1 : sm pFi σ σ1 := by rw [hσ1]; exact sm_sa (sm_up (sm_sa sm_rf (fun _ => rfl)) rfl) (fun _ => rfl)
      rw [← hσ1]
      clear hσ1
      refine c_find (F' := F') v16 (by omega) (by rw [v8]; exact kFR) (vk 11 (by omega) (by omega) (by omega)) h5 (by rw [vk 15 (by omega) (by omega) (by omega)]; exact h6.2.2) (fun σ2 s2 t1 t3 => ?_)
      have w16 : σ2 1 6 = ((N - n : Nat) : Int) := (s2 1 6 rfl).trans v16
      rw [w16]
      refine tau (fun τ sτ τ54 eτ => ?_)
      have wk : ∀ k, k ≠ 54 → (∀ j, pFd k j = false) → k ≠ 10 → k ≠ 1 → k ≠ 8 → τ k = σ k := fun k a0 p a1 a2 a3 => by rw [eτ k a0, sm_fn s2 k p, vk k a1 a2 a3]
      have q30 := wk 30 (by omega) (fun _ => rfl) (by omega) (by omega) (by omega)
      have q34 := wk 34 (by omega) (fun _ => rfl) (by omega) (by omega) (by omega)
      have q33 := wk 33 (by omega) (fun _ => rfl) (by omega) (by omega) (by omega)
      have q12 := wk 12 (by omega) (fun _ => rfl) (by omega) (by omega) (by omega)
      have q31 := wk 31 (by omega) (fun _ => rfl) (by omega) (by omega) (by omega)
      have q8 : τ 8 = k' := by rw [eτ 8 (by omega), sm_fn s2 8 (fun _ => rfl), v8]
      have q10 : τ 10 = rnum k' pl a (N - n - a) := by rw [eτ 10 (by omega), sm_fn s2 10 (fun _ => rfl), v10]
      have q16 : τ 1 6 = ((N - n : Nat) : Int) := by rw [eτ 1 (by omega)]; exact w16
      have q15 : τ 1 5 = (S : Int) := by rw [eτ 1 (by omega), s2 1 5 rfl]; exact v15
      have sT : sm pFi σ τ := sm_tr s1 (sm_tr (sm_w s2 pFi_fd) (sm_w sτ pFi_sc))
      have m5 : τ 30 5 = (N : Int) := by rw [q30]; exact e5
      simp only [mX7_cut, fX7_cut, u_eC, u_eV, u_eF, u_eR, u_eI, u_eL, u_eB, u_eD, u_eM, u_eU, u_aN, u_aC, u_eK, u_eT, u_cLt, u_cLe, u_cGt, u_cGe, u_cEq, u_cNe, u_cAnd, u_cOr, u_cNot, u_zN, u_zS, u_zD, u_zL, u_zI, u_zB, u_zP, u_zF, u_zA, u_zU, u_zC, u_zR, u_zRZ, u_zRC, u_zRV, u_zT, u_zE, u_zK, u_zY, ho_nid, List.getD_cons_zero, List.getD_cons_succ, List.set_cons_zero, List.set_cons_succ, List.cons_append, List.nil_append, List.take_succ_cons, List.take_zero, Int.reduceToNat, Int.toNat_natCast, nN_0, nN_1, nN_2, nN_3, nN_4, nN_5, nN_6, nN_7, nN_8, nN_9, nN_10, nN_11, nN_12, nN_13, nN_14, nN_15, nN_16, nN_17, nN_18, nN_19, nN_20, nN_21, nN_22, nN_23, nN_24, nN_25, nN_26, nN_27, nN_28, nN_29, nN_30, nN_31, nN_32, nN_33, nN_34, nN_35, nN_36, nN_37, nN_38, nN_39, nN_40, nN_41, nN_42, nN_43, nN_44, nN_45, nN_46, nN_47, nN_48, nN_49, nN_50, nN_51, nN_52, nN_53, nN_54, nR_0_0, nR_0_1, nR_0_2, nR_0_3, nR_0_4, nR_0_5, nR_0_6, nR_0_7, nR_0_8, nR_0_9, nR_0_10, nR_1_0, nR_1_1, nR_1_2, nR_1_3, nR_1_4, nR_2_0, nR_2_1, nR_2_2, nR_2_3, nR_2_4, nR_3_0, nR_3_1, nR_4_2, nR_5_2, nR_6_0, nR_6_1, nR_6_2, nR_7_0, nR_30_2, nR_30_3, nR_30_4, nR_30_6, nR_30_7, nR_30_9, nR_30_10, nR_30_11, nR_30_12, nR_30_13, nR_30_14, nR_30_15, nR_30_16, nR_30_18, nR_30_19, nR_30_20, nR_30_21, nR_30_22, nR_30_23, nR_30_24, nR_30_28, nR_30_29, nR_30_31, sp_isPlace (σ := τ) (show 0 ≤ τ 30 5 by rw [m5]; omega) (show τ 30 5 ≤ 4800 by rw [m5]; omega), sp_areFrames (σ := τ) (show 0 ≤ τ 30 5 by rw [m5]; omega) (show τ 30 5 ≤ 4800 by rw [m5]; omega) (show 0 ≤ (a : Int) by omega) (show (a : Int) ≤ τ 30 5 by rw [m5]; omega), zlt, zle, zl1, zl2, zl3, z1l, z2l, z3l, z1e, z2e, z3e, z1n, z2n, z3n, z0n, z0e, true_implies, false_implies, and_true, true_and, ho_upE, bI_ne, bI_eq, true_or, or_true, m5]
      refine ⟨fun _ => ⟨fun w => by omega, fun _ => ⟨fun _ => ?_, fun w => absurd (show (n : Int) ≤ (N : Int) - (a : Int) by omega) w⟩⟩, fun w => absurd c1 w⟩
      have m5' : (ho_up τ 30 0 0) 30 5 = (N : Int) := m5
      refine sp_takes (by omega) (by omega) (by rw [m5']; omega) (by rw [m5']; omega) (fun fm gm f1 f2 => ?_)
      rw [m5'] at f1 ⊢
      rw [show (ho_up τ 30 0 0) 34 = σ 34 from q34] at f1
      rw [show ((N : Int) - (n : Int)) = ((N - n : Nat) : Int) by omega] at f1 ⊢
      obtain ⟨τ2, hτ2⟩ : ∃ τ2, τ2 = sa (ho_up (sa (ho_up τ 30 0 0) 35 gm) 30 5 ((N - n : Nat) : Int)) 34 fm := ⟨_, rfl⟩
      have x34 : τ2 34 = fm := by rw [hτ2, saE]
      have x35 : τ2 30 5 = ((N - n : Nat) : Int) := by rw [hτ2, saF (show (30 : Nat) ≠ 34 by decide), ho_upE]
      have x3 : ∀ i, i ≠ 5 → τ2 30 i = (ho_up τ 30 0 0) 30 i := fun i hi => by rw [hτ2, saF (show (30 : Nat) ≠ 34 by decide), ho_upJ hi, saF (show (30 : Nat) ≠ 35 by decide)]
      have xk : ∀ k, k ≠ 34 → k ≠ 30 → k ≠ 35 → τ2 k = τ k := fun k a1 a2 a3 => by rw [hτ2, saF a1, ho_upF a2, saF a3, ho_upF a2]
      have sT2 : sm pFi σ τ2 := by rw [hτ2]; exact sm_sa (sm_up (sm_sa (sm_up sT rfl) (fun _ => rfl)) rfl) (fun _ => rfl)
      rw [← hτ2]
      clear hτ2
      have x31 : τ2 30 1 = (S : Int) := by rw [x3 1 (by omega), ho_upJ (show (1 : Nat) ≠ 0 by decide), q30]; exact h1.2.1
      have x38 : τ2 30 8 = (M : Int) := by rw [x3 8 (by omega), ho_upJ (show (8 : Nat) ≠ 0 by decide), q30]; exact h1.2.2.2.2.2.1
      have x30 : τ2 30 0 = 0 := by rw [x3 0 (by omega), ho_upE]
      have fF : ∀ i, i < N - n → fm i = F' i := fun i hi => by
        rw [f1 i (by omega), hF', Int.toNat_natCast]
        by_cases y : i < a
        · rw [if_pos (by omega), if_pos y]
        · rw [if_neg (by omega), if_neg y]
      have FB : ∀ i, i < N - n → 0 ≤ F' i ∧ F' i < 4800 := fun i hi => ⟨(kFR i hi).1, (kFR i hi).2.1⟩
      refine m_settles (F' := F') x31 h2.1 x35 (by omega) x38 hM (fun i hi => by rw [x34]; exact fF i hi) FB Finj (by rw [xk 33 (by omega) (by omega) (by omega), q33]; exact h5.1) (fun υ sυ plm t2 => ?_)
      have u34 : υ 34 = fm := (sm_fn sυ 34 (fun _ => rfl)).trans x34
      have u30 : ∀ i, υ 30 i = τ2 30 i := fun i => sυ 30 i rfl
      have uk : ∀ k, (∀ j, (Nat.beq k 32 || (Nat.beq k 37 || Nat.beq k 38)) = false) → k ≠ 34 → k ≠ 30 → k ≠ 35 → υ k = τ k := fun k p a1 a2 a3 => by rw [sm_fn sυ k p, xk k a1 a2 a3]
      have u31 : υ 31 = σ 31 := by rw [uk 31 (fun _ => rfl) (by omega) (by omega) (by omega), q31]
      have u12 : υ 12 = σ 12 := by rw [uk 12 (fun _ => rfl) (by omega) (by omega) (by omega), q12]
      have u8 : υ 8 = k' := by rw [uk 8 (fun _ => rfl) (by omega) (by omega) (by omega), q8]
      have u10 : υ 10 = rnum k' pl a (N - n - a) := by rw [uk 10 (fun _ => rfl) (by omega) (by omega) (by omega), q10]
      have u33 : υ 33 = σ 33 := by rw [uk 33 (fun _ => rfl) (by omega) (by omega) (by omega), q33]
      have u1 : υ 1 = τ 1 := uk 1 (fun _ => rfl) (by omega) (by omega) (by omega)
      have u13 : υ 13 = σ2 13 := by rw [uk 13 (fun _ => rfl) (by omega) (by omega) (by omega), eτ 13 (by omega)]
      have u14 : υ 14 = σ2 14 := by rw [uk 14 (fun _ => rfl) (by omega) (by omega) (by omega), eτ 14 (by omega)]
      have u15 : υ 15 = σ2 15 := by rw [uk 15 (fun _ => rfl) (by omega) (by omega) (by omega), eτ 15 (by omega)]
      have us : sm pFi σ υ := sm_tr sT2 (sm_mo sυ (fun k j z => by
        unfold pFi at z
        cases a : Nat.beq k 32 <;> cases b : Nat.beq k 37 <;> cases d : Nat.beq k 38 <;> simp [a, b, d] at z ⊢))
      have pF : ∀ i, i < N - n → F' i < 400 * (S : Int) ∧ F' i % 400 < σ 31 (F' i / 400).toNat := fun i hi => by
        obtain ⟨x, x1, x2, _⟩ := Fo i hi
        rw [x2]
        exact h2.2.2.2.2.1 x x1
      have lrF : ∀ c s l, LR (fun i => bit (σ 33 (F' i).toNat) c = true) (N - n) s l → LR (fun i => bit (σ 33 (υ 34 i).toNat) c = true) (N - n) s l := fun c s l hl => LR_congr (fun i hi => by rw [u34, fF i hi]) hl
      refine ⟨by rw [u30]; exact x30, ?_, Inv_fi (S' := S) (N' := N - n) hj h1 h5 h7 h8 h9 h10 h11 h12 h13 us ⟨by rw [u1]; exact q15, by rw [u30]; exact x31, by rw [u1]; exact q16, by rw [u30]; exact x35⟩ ⟨h2.1, nfit (fun i hi => ⟨(FB i hi).1, (pF i hi).1⟩) Finj, by rw [u12, u31]; exact h2.2.2.1, fun i hi => ?_, fun i hi => ?_, fun i i' hi hi' e => ?_⟩ (fun s f hs hf => ?_) (fun s f hs hf => ?_) (Nat.le_refl _) u33 (fun c hc => ?_) (fun c hc => ?_) (by rw [u15]; exact t3)⟩
      · rw [u30, x35, uk 54 (fun _ => rfl) (by omega) (by omega) (by omega)]; exact τ54
      · rw [u8, u34, fF i hi]; exact kFR i hi
      · rw [u34, fF i hi, u31]; exact pF i hi
      · rw [u34, fF i hi, fF i' hi'] at e; exact Finj i i' hi hi' e
      · rw [u31] at hf
        have po := h3 s f hs hf
        have fr := h2.2.2.1 s hs
        rw [u8, u10]
        have pr := plc_rn (k' := k') (pl := pl) (a := a) (N' := N - n) (x := ((401 * s + f : Nat) : Int)) (by omega) (by omega) (fun i hi => by have := kFR i hi; omega) kinj (fun no => by
          rw [Int.toNat_natCast]
          rcases po with ⟨i, i1, i2, i3⟩ | ⟨i1, i2⟩
          · by_cases y1 : i < a
            · refine Or.inl ⟨i, y1, by rw [kk i (by omega), if_pos y1]; exact i2, ?_⟩
              rw [p2 _ (fun k hk e => ?_)]
              · exact i3
              · have b1 := old (a + k) (by omega)
                have b2 := old i i1
                have := h2.2.2.2.2.2 (a + k) i (by omega) i1 (by omega)
                omega
            · by_cases y2 : i < a + n
              · refine Or.inr ⟨fun k hk e => ?_, p1 _ ⟨i - a, by omega, ?_⟩⟩
                · rw [kk k (by omega), if_pos hk] at e
                  have b1 := old k (by omega)
                  have b2 := old i i1
                  have := h2.2.2.2.2.2 k i (by omega) i1 (by omega)
                  omega
                · rw [show a + (i - a) = i by omega, i2]; omega
              · exact absurd (by rw [kk (i - n) (by omega), if_neg (by omega), show i - n + n = i by omega]; exact i2) (no (i - n) (by omega) (by omega))
          · refine Or.inr ⟨fun k hk e => ?_, ?_⟩
            · rw [kk k (by omega), if_pos hk] at e
              exact i1 k (by omega) e
            · rw [p2 _ (fun k hk e => ?_)]
              · exact i2
              · have b1 := old (a + k) (by omega)
                exact i1 (a + k) (by omega) (by omega))
        rw [Int.toNat_natCast] at pr
        exact pr
      · rw [u31] at hf
        have fr := h2.2.2.1 s hs
        have pm := plm ((400 * s + f : Nat) : Int) (by omega) (by omega)
        rw [Int.toNat_natCast] at pm
        exact PLC_F pm (fun i hi => by rw [u34]; exact fF i hi)
      · rw [u13, u14]
        exact lrF c _ _ (t1 c hc)
      · rw [xk 33 (by omega) (by omega) (by omega), q33] at t2
        exact lrF c _ _ (t2 c hc)
    · rw [if_neg c2]
      exact Or.inr ⟨by trivial, thr2 c1 (by omega)⟩
  · rw [if_neg c1]
    exact Or.inl ⟨by trivial, thr1 c1⟩
