-- what rules are broken: the class
def anyb (P : Nat → Bool) : Nat → Bool
  | 0 => false
  | n + 1 => anyb P n || P n
theorem anyb_t {P : Nat → Bool} {n k : Nat} (hk : k < n) (h : P k = true) : anyb P n = true := by
  induction n with
  | zero => omega
  | succ n ih =>
    unfold anyb
    by_cases w : k = n
    · subst w; rw [h]; simp
    · rw [ih (by omega)]; simp
theorem anyb_f {P : Nat → Bool} {n : Nat} (h : ∀ k, k < n → P k = false) : anyb P n = false := by
  induction n with
  | zero => rfl
  | succ n ih => unfold anyb; rw [ih (fun k hk => h k (by omega)), h n (by omega)]; rfl
theorem anyb_congr {P R : Nat → Bool} {n : Nat} (h : ∀ k, k < n → P k = R k) : anyb P n = anyb R n := by
  induction n with
  | zero => rfl
  | succ n ih => unfold anyb; rw [ih (fun k hk => h k (by omega)), h n (by omega)]
def seamF (F : Nat → Int) (p : Nat) : Bool := decide (0 < p) && (decide (F p ≠ F (p - 1) + 1) || decide (F p % 400 = 0))
def hangP (F : Nat → Int) (s l i : Nat) : Bool := (decide (i + 1 < 12) || decide (l - (i + 1) < 12)) && seamF F (s + 1 + i)
def closeP (st ln lk : Nat → Int) (c k : Nat) : Bool := decide ((lk k = 3 ↔ lk c = 3) ∧ 0 < ln k ∧ ((st k = st c ∧ c < k) ∨ (st c < st k ∧ st k - (st c + ln c) < 2)))
def brP (T : Nat → Int) (i : Nat) : Bool := decide (T i = 10)
def bdP (T : Nat → Int) (i : Nat) : Bool := decide (T i = 10 ∧ T (i + 1) = 45)
theorem bd_le (T : Nat → Int) (n : Nat) : cnt (bdP T) n ≤ cnt (brP T) n := by
  induction n with
  | zero => exact Int.le_refl _
  | succ n ih =>
    show cnt (bdP T) n + (if bdP T n = true then 1 else 0) ≤ cnt (brP T) n + (if brP T n = true then 1 else 0)
    by_cases h : T n = 10
    · rw [if_pos (show brP T n = true from decide_eq_true h)]
      split <;> omega
    · rw [if_neg (show ¬ bdP T n = true from fun z => h (of_decide_eq_true z).1), if_neg (show ¬ brP T n = true from fun z => h (of_decide_eq_true z))]
      omega
/-- two speakers: two parts, each with a dash ahead -/
def voB (T : Nat → Int) (n : Nat) : Bool := decide (T 0 = 45 ∧ cnt (brP T) n = 1 ∧ cnt (bdP T) n = 1)
def bv (b : Bool) (x : Int) : Int := if b = true then x else 0
def BS (b0 b1 b2 b3 b4 b5 b6 b7 : Bool) : Int := ho_oor (ho_oor (ho_oor (ho_oor (ho_oor (ho_oor (ho_oor (bv b0 1) (bv b1 2)) (bv b2 4)) (bv b3 8)) (bv b4 16)) (bv b5 32)) (bv b6 64)) (bv b7 128)
theorem BS_rg : ∀ b0 b1 b2 b3 b4 b5 b6 b7 : Bool, 0 ≤ BS b0 b1 b2 b3 b4 b5 b6 b7 ∧ BS b0 b1 b2 b3 b4 b5 b6 b7 < 256 := by decide +kernel
/-- the set of the rules that a text of a caption breaks -/
noncomputable def RB (st ln lk F : Nat → Int) (stale : Bool) (T : Nat → Int) (n : Nat) (W sp : Int) (M c : Nat) : Int :=
  BS (decide (n = 0)) (decide (2 < (rws T W n).length) || decide (W < wid T (rws T W n))) (decide (0 < ln c) && decide (sp * ln c < 25 * pre T n)) (decide (0 < ln c) && anyb (hangP F (st c).toNat (ln c).toNat) ((ln c).toNat - 1)) (decide (0 < ln c) && anyb (closeP st ln lk c) M) stale (!decide (0 < ln c)) (decide (lk c = 1) && (decide (0 < n) && !voB T n))
theorem RB_congr {st ln lk F st' ln' lk' F' : Nat → Int} {stale : Bool} {T : Nat → Int} {n : Nat} {W sp : Int} {M c N : Nat} (hc : c < M) (h1 : ∀ k, k < M → st k = st' k ∧ ln k = ln' k ∧ lk k = lk' k) (hF : ∀ p, p < N → F p = F' p) (hT : 0 ≤ st c ∧ st c + ln c ≤ N ∨ ln c = 0) : RB st ln lk F stale T n W sp M c = RB st' ln' lk' F' stale T n W sp M c := by
  unfold RB
  have e4 : anyb (closeP st ln lk c) M = anyb (closeP st' ln' lk' c) M := anyb_congr (fun k hk => by
    unfold closeP
    rw [(h1 k hk).1, (h1 k hk).2.1, (h1 k hk).2.2, (h1 c hc).1, (h1 c hc).2.1, (h1 c hc).2.2])
  have e3 : anyb (hangP F (st c).toNat (ln c).toNat) ((ln c).toNat - 1) = anyb (hangP F' (st c).toNat (ln c).toNat) ((ln c).toNat - 1) := anyb_congr (fun k hk => by
    unfold hangP seamF
    rw [hF _ (by omega), hF _ (by omega)])
  rw [e4, e3, (h1 c hc).1, (h1 c hc).2.1, (h1 c hc).2.2]
/-- the keys of the class's film by the model's numbers -/
def FR (K F : Nat → Int) (N : Nat) : Prop := ∀ i, i < N → 0 ≤ F i ∧ F i < 4800 ∧ K i = F i + F i / 400
theorem seam_FR {K F : Nat → Int} {N p : Nat} (h : FR K F N) (hp : p < N) (h0 : 0 < p) : (K p ≠ K (p - 1) + 1) ↔ (F p ≠ F (p - 1) + 1 ∨ F p % 400 = 0) := by
  have a := h p hp
  have b := h (p - 1) (by omega)
  omega
theorem sp_isSeamN {F : Nat → Int} {N p : Nat} {σ : ho_S} {Q : ho_K} {X : ho_X} (h : FR (σ 8) F N) (hN : N ≤ 4800) (hp : p < N) : mX0_isSeam [1, (p : Int)] σ Q X ↔ Q (if seamF F p = true then 1 else 0) σ := by
  rw [sp_isSeam]
  by_cases h0 : 0 < p
  · obtain ⟨w, rfl⟩ : ∃ w, p = w + 1 := ⟨p - 1, by omega⟩
    have k1 := h (w + 1) hp
    have k0 := h w (by omega)
    have sf := seam_FR h hp (by omega)
    rw [show w + 1 - 1 = w by omega] at sf
    have q1 : ho_w (((w + 1 : Nat) : Int) - 1) = (w : Int) := odec (k := w) (by omega)
    rw [q1, gi8 (by omega), gi8 (by omega)]
    clear q1
    have q2 : ho_w (σ 8 w + 1) = σ 8 w + 1 := wE (by omega) (by omega)
    rw [q2]
    clear q2
    have q3 : (0 < ((w + 1 : Nat) : Int) ∧ σ 8 (w + 1) ≠ σ 8 w + 1) ↔ seamF F (w + 1) = true := by
      unfold seamF
      simp only [Bool.and_eq_true, Bool.or_eq_true, decide_eq_true_eq]
      rw [show w + 1 - 1 = w by omega]
      constructor
      · intro z; exact ⟨by omega, sf.mp z.2⟩
      · intro z; exact ⟨by omega, sf.mpr z.2⟩
    by_cases z : seamF F (w + 1) = true
    · rw [if_pos z, if_pos (q3.mpr z)]
    · rw [if_neg z, if_neg (fun y => z (q3.mp y))]
  · have q3 : seamF F p = false := by
      unfold seamF
      rw [decide_eq_false h0]; rfl
    rw [q3, if_neg (fun z => h0 (by omega))]
    rfl
theorem sp_changs {F : Nat → Int} {N c s l : Nat} {σ : ho_S} {Q : ho_K} {X : ho_X} (hc : c < 16) (h : FR (σ 8) F N) (hN : N ≤ 4800) (hs : σ 13 c = (s : Int)) (hl : σ 14 c = (l : Int)) (hsl : s + l ≤ N) (hQ : Q (if anyb (hangP F s l) (l - 1) = true then 1 else 0) σ) : mX6_hangs [0, (c : Int)] σ Q X := by
  simp only [mX6_hangs, fX6_hangs, u_eC, u_eV, u_eF, u_eR, u_eI, u_eL, u_eB, u_eD, u_eM, u_eU, u_aN, u_aC, u_eK, u_eT, u_cLt, u_cLe, u_cGt, u_cGe, u_cEq, u_cNe, u_cAnd, u_cOr, u_cNot, u_zN, u_zS, u_zD, u_zL, u_zI, u_zB, u_zP, u_zF, u_zA, u_zU, u_zC, u_zR, u_zRZ, u_zRC, u_zRV, u_zT, u_zE, u_zK, u_zY, ho_nid, List.getD_cons_zero, List.getD_cons_succ, List.set_cons_zero, List.set_cons_succ, List.cons_append, List.nil_append, List.take_succ_cons, List.take_zero, Int.reduceToNat, Int.toNat_natCast, nN_0, nN_1, nN_2, nN_3, nN_4, nN_5, nN_6, nN_7, nN_8, nN_9, nN_10, nN_11, nN_12, nN_13, nN_14, nN_15, nN_16, nN_17, nN_18, nN_19, nN_20, nN_21, nN_22, nN_23, nN_24, nN_25, nN_26, nN_27, nN_28, nN_29, nN_30, nN_31, nN_32, nN_33, nN_34, nN_35, nN_36, nN_37, nN_38, nN_39, nN_40, nN_41, nN_42, nN_43, nN_44, nN_45, nN_46, nN_47, nN_48, nN_49, nN_50, nN_51, nN_52, nN_53, nN_54, nR_0_0, nR_0_1, nR_0_2, nR_0_3, nR_0_4, nR_0_5, nR_0_6, nR_0_7, nR_0_8, nR_0_9, nR_0_10, nR_1_0, nR_1_1, nR_1_2, nR_1_3, nR_1_4, nR_2_0, nR_2_1, nR_2_2, nR_2_3, nR_2_4, nR_3_0, nR_3_1, nR_4_2, nR_5_2, nR_6_0, nR_6_1, nR_6_2, nR_7_0, nR_30_2, nR_30_3, nR_30_4, nR_30_6, nR_30_7, nR_30_9, nR_30_10, nR_30_11, nR_30_12, nR_30_13, nR_30_14, nR_30_15, nR_30_16, nR_30_18, nR_30_19, nR_30_20, nR_30_21, nR_30_22, nR_30_23, nR_30_24, nR_30_28, nR_30_29, nR_30_31, sp_tstart, sp_tend, n00, n01, true_or, or_true, true_and]
  rw [gi13 hc, gi14 hc, hs, hl, wE (x := (s : Int) + (l : Int)) (by omega) (by omega), oinc (by omega)]
  refine zW_rule (fun v σ' m => ∃ k : Nat, (k ≤ l - 1) ∧ v = [0, (c : Int), (s : Int), (s : Int) + (l : Int), ((s + 1 + k : Nat) : Int)] ∧ m = l - k ∧ σ' = σ ∧ ∀ i, i < k → hangP F s l i = false) _ ⟨0, by omega, rfl, rfl, rfl, fun i hi => by omega⟩ ?_
  rintro v σ' m ⟨k, hk, rfl, rfl, rfl, hf⟩ KK KE hKK hKE
  simp only [u_eC, u_eV, u_eF, u_eR, u_eI, u_eL, u_eB, u_eD, u_eM, u_eU, u_aN, u_aC, u_eK, u_eT, u_cLt, u_cLe, u_cGt, u_cGe, u_cEq, u_cNe, u_cAnd, u_cOr, u_cNot, u_zN, u_zS, u_zD, u_zL, u_zI, u_zB, u_zP, u_zF, u_zA, u_zU, u_zC, u_zR, u_zRZ, u_zRC, u_zRV, u_zT, u_zE, u_zK, u_zY, ho_nid, List.getD_cons_zero, List.getD_cons_succ, List.set_cons_zero, List.set_cons_succ, List.cons_append, List.nil_append, List.take_succ_cons, List.take_zero, Int.reduceToNat, Int.toNat_natCast, nN_0, nN_1, nN_2, nN_3, nN_4, nN_5, nN_6, nN_7, nN_8, nN_9, nN_10, nN_11, nN_12, nN_13, nN_14, nN_15, nN_16, nN_17, nN_18, nN_19, nN_20, nN_21, nN_22, nN_23, nN_24, nN_25, nN_26, nN_27, nN_28, nN_29, nN_30, nN_31, nN_32, nN_33, nN_34, nN_35, nN_36, nN_37, nN_38, nN_39, nN_40, nN_41, nN_42, nN_43, nN_44, nN_45, nN_46, nN_47, nN_48, nN_49, nN_50, nN_51, nN_52, nN_53, nN_54, nR_0_0, nR_0_1, nR_0_2, nR_0_3, nR_0_4, nR_0_5, nR_0_6, nR_0_7, nR_0_8, nR_0_9, nR_0_10, nR_1_0, nR_1_1, nR_1_2, nR_1_3, nR_1_4, nR_2_0, nR_2_1, nR_2_2, nR_2_3, nR_2_4, nR_3_0, nR_3_1, nR_4_2, nR_5_2, nR_6_0, nR_6_1, nR_6_2, nR_7_0, nR_30_2, nR_30_3, nR_30_4, nR_30_6, nR_30_7, nR_30_9, nR_30_10, nR_30_11, nR_30_12, nR_30_13, nR_30_14, nR_30_15, nR_30_16, nR_30_18, nR_30_19, nR_30_20, nR_30_21, nR_30_22, nR_30_23, nR_30_24, nR_30_28, nR_30_29, nR_30_31, n00, n01, true_or, or_true, true_and, inc (show s + 1 + k < 100000 by omega)]
  have nx : hangP F s l k = false → k < l - 1 → KK [0, (c : Int), (s : Int), (s : Int) + (l : Int), ((s + 1 + k + 1 : Nat) : Int)] σ' := fun z hk9 => hKK _ _ (l - (k + 1)) (by omega) ⟨k + 1, by omega, rfl, rfl, rfl, fun i hi => by
    by_cases w : i = k
    · subst w; exact z
    · exact hf i (by omega)⟩
  refine ⟨fun c1 => ?_, fun c1 => hKE _ ?_⟩
  · have hk9 : k < l - 1 := by omega
    have w1 : ho_osub ((s + 1 + k : Nat) : Int) (s : Int) = ((k + 1 : Nat) : Int) := by rw [wsu (by omega) (by omega)]; omega
    rw [w1]
    clear w1
    have w2 : ho_osub ((s : Int) + (l : Int)) ((s + 1 + k : Nat) : Int) = ((l - (k + 1) : Nat) : Int) := by rw [wsu (by omega) (by omega)]; omega
    rw [w2]
    clear w2
    have yes : (k + 1 < 12 ∨ l - (k + 1) < 12) → mX0_isSeam [1, ((s + 1 + k : Nat) : Int)] σ' (fun a σ => (a ≠ 0 → Q 1 σ) ∧ (a = 0 → KK [0, (c : Int), (s : Int), (s : Int) + (l : Int), ((s + 1 + k + 1 : Nat) : Int)] σ)) X := by
      intro z
      refine (sp_isSeamN h hN (by omega)).mpr ?_
      simp only [ite01, ite01e]
      refine ⟨fun y => ?_, fun y => nx ?_ hk9⟩
      · have e9 : anyb (hangP F s l) (l - 1) = true := anyb_t hk9 (by
          unfold hangP
          simp only [Bool.and_eq_true, Bool.or_eq_true, decide_eq_true_eq]
          exact ⟨z, y⟩)
        rw [e9] at hQ
        exact hQ
      · unfold hangP
        rw [Bool.not_eq_true] at y
        rw [y]; simp
    refine ⟨fun c2 => yes (Or.inl (by omega)), fun c2 => ⟨fun c3 => yes (Or.inr (by omega)), fun c3 => nx ?_ hk9⟩⟩
    unfold hangP
    rw [decide_eq_false (show ¬ k + 1 < 12 by omega), decide_eq_false (show ¬ l - (k + 1) < 12 by omega)]; rfl
  · have e9 : anyb (hangP F s l) (l - 1) = false := anyb_f (fun i hi => hf i (by omega))
    rw [e9] at hQ
    exact hQ
theorem sp_follows {o c : Nat} {so sc lc : Int} {σ : ho_S} {Q : ho_K} {X : ho_X} (ho : o < 16) (hc : c < 16) (h1 : σ 13 o = so) (h2 : σ 13 c = sc) (h3 : σ 14 c = lc) (r1 : -1 ≤ so ∧ so ≤ 4800) (r2 : -1 ≤ sc ∧ sc ≤ 4800) (r3 : 0 ≤ lc ∧ lc ≤ 5000)
    (hQ : Q (bI ((so = sc ∧ c < o) ∨ (sc < so ∧ so - (sc + lc) < 2))) σ) : mX6_followsClosely [0, (o : Int), (c : Int)] σ Q X := by
  simp only [mX6_followsClosely, fX6_followsClosely, u_eC, u_eV, u_eF, u_eR, u_eI, u_eL, u_eB, u_eD, u_eM, u_eU, u_aN, u_aC, u_eK, u_eT, u_cLt, u_cLe, u_cGt, u_cGe, u_cEq, u_cNe, u_cAnd, u_cOr, u_cNot, u_zN, u_zS, u_zD, u_zL, u_zI, u_zB, u_zP, u_zF, u_zA, u_zU, u_zC, u_zR, u_zRZ, u_zRC, u_zRV, u_zT, u_zE, u_zK, u_zY, ho_nid, List.getD_cons_zero, List.getD_cons_succ, List.set_cons_zero, List.set_cons_succ, List.cons_append, List.nil_append, List.take_succ_cons, List.take_zero, Int.reduceToNat, Int.toNat_natCast, nN_0, nN_1, nN_2, nN_3, nN_4, nN_5, nN_6, nN_7, nN_8, nN_9, nN_10, nN_11, nN_12, nN_13, nN_14, nN_15, nN_16, nN_17, nN_18, nN_19, nN_20, nN_21, nN_22, nN_23, nN_24, nN_25, nN_26, nN_27, nN_28, nN_29, nN_30, nN_31, nN_32, nN_33, nN_34, nN_35, nN_36, nN_37, nN_38, nN_39, nN_40, nN_41, nN_42, nN_43, nN_44, nN_45, nN_46, nN_47, nN_48, nN_49, nN_50, nN_51, nN_52, nN_53, nN_54, nR_0_0, nR_0_1, nR_0_2, nR_0_3, nR_0_4, nR_0_5, nR_0_6, nR_0_7, nR_0_8, nR_0_9, nR_0_10, nR_1_0, nR_1_1, nR_1_2, nR_1_3, nR_1_4, nR_2_0, nR_2_1, nR_2_2, nR_2_3, nR_2_4, nR_3_0, nR_3_1, nR_4_2, nR_5_2, nR_6_0, nR_6_1, nR_6_2, nR_7_0, nR_30_2, nR_30_3, nR_30_4, nR_30_6, nR_30_7, nR_30_9, nR_30_10, nR_30_11, nR_30_12, nR_30_13, nR_30_14, nR_30_15, nR_30_16, nR_30_18, nR_30_19, nR_30_20, nR_30_21, nR_30_22, nR_30_23, nR_30_24, nR_30_28, nR_30_29, nR_30_31, sp_tstart, sp_tend, n00, n01, true_or, or_true, true_and]
  rw [gi13 hc, gi13 ho, gi14 hc, h1, h2, h3, wE (x := sc + lc) (by omega) (by omega), wsu (by omega) (by omega)]
  have a1 : ((so = sc ∧ c < o) ∨ (sc < so ∧ so - (sc + lc) < 2)) → Q 1 σ := fun z => by rw [bI_t z] at hQ; exact hQ
  have a0 : ¬ ((so = sc ∧ c < o) ∨ (sc < so ∧ so - (sc + lc) < 2)) → Q 0 σ := fun z => by rw [bI_f z] at hQ; exact hQ
  refine ⟨fun z => ⟨fun y => a1 (Or.inl ⟨z, by omega⟩), fun y => a0 (by omega)⟩, fun z => ⟨fun y => ⟨fun x => a1 (Or.inr ⟨y, x⟩), fun x => a0 (by omega)⟩, fun y => a0 (by omega)⟩⟩
theorem sp_cisClose {M c N : Nat} {σ : ho_S} {Q : ho_K} {X : ho_X} (hc : c < M) (hM : σ 0 11 = (M : Int)) (hM1 : M ≤ 16) (hN : N ≤ 4800) (ht : ∀ k, k < M → 0 ≤ σ 14 k ∧ -1 ≤ σ 13 k ∧ σ 13 k + σ 14 k ≤ N) (hQ : Q (if anyb (closeP (σ 13) (σ 14) (σ 26) c) M = true then 1 else 0) σ) : mX6_isClose [0, (c : Int)] σ Q X := by
  simp only [mX6_isClose, fX6_isClose, u_eC, u_eV, u_eF, u_eR, u_eI, u_eL, u_eB, u_eD, u_eM, u_eU, u_aN, u_aC, u_eK, u_eT, u_cLt, u_cLe, u_cGt, u_cGe, u_cEq, u_cNe, u_cAnd, u_cOr, u_cNot, u_zN, u_zS, u_zD, u_zL, u_zI, u_zB, u_zP, u_zF, u_zA, u_zU, u_zC, u_zR, u_zRZ, u_zRC, u_zRV, u_zT, u_zE, u_zK, u_zY, ho_nid, List.getD_cons_zero, List.getD_cons_succ, List.set_cons_zero, List.set_cons_succ, List.cons_append, List.nil_append, List.take_succ_cons, List.take_zero, Int.reduceToNat, Int.toNat_natCast, nN_0, nN_1, nN_2, nN_3, nN_4, nN_5, nN_6, nN_7, nN_8, nN_9, nN_10, nN_11, nN_12, nN_13, nN_14, nN_15, nN_16, nN_17, nN_18, nN_19, nN_20, nN_21, nN_22, nN_23, nN_24, nN_25, nN_26, nN_27, nN_28, nN_29, nN_30, nN_31, nN_32, nN_33, nN_34, nN_35, nN_36, nN_37, nN_38, nN_39, nN_40, nN_41, nN_42, nN_43, nN_44, nN_45, nN_46, nN_47, nN_48, nN_49, nN_50, nN_51, nN_52, nN_53, nN_54, nR_0_0, nR_0_1, nR_0_2, nR_0_3, nR_0_4, nR_0_5, nR_0_6, nR_0_7, nR_0_8, nR_0_9, nR_0_10, nR_1_0, nR_1_1, nR_1_2, nR_1_3, nR_1_4, nR_2_0, nR_2_1, nR_2_2, nR_2_3, nR_2_4, nR_3_0, nR_3_1, nR_4_2, nR_5_2, nR_6_0, nR_6_1, nR_6_2, nR_7_0, nR_30_2, nR_30_3, nR_30_4, nR_30_6, nR_30_7, nR_30_9, nR_30_10, nR_30_11, nR_30_12, nR_30_13, nR_30_14, nR_30_15, nR_30_16, nR_30_18, nR_30_19, nR_30_20, nR_30_21, nR_30_22, nR_30_23, nR_30_24, nR_30_28, nR_30_29, nR_30_31, sp_item, n00, n01, true_or, or_true, true_and]
  rw [gi26 (by omega)]
  have main : ∀ x : Int, (x = if σ 26 c = 3 then 1 else 0) → zW (cLt (eV 3) (eF (eV 0) 11)) (zS (zB 4 (zS (zD (eT (cEq (eT (cEq (eK mX6_item (aC (eR (eV 0) 7) (aC (eV 3) aN))) (eC 3)) (eC 1) (eC 0)) (eV 2)) (eC 1) (eC 0))) (zC (cAnd (cAnd (cNe (eV 4) (eC 0)) (cNe (eK mX5_isIn (aC (eR (eV 0) 1) (aC (eV 3) aN))) (eC 0))) (cNe (eK mX6_followsClosely (aC (eV 0) (aC (eV 3) (aC (eV 1) aN)))) (eC 0))) (zRZ (eC 1)) zN))) (zI 3 1)) [0, (c : Int), x, 0] σ (fun _ σ => Q 0 σ) Q X := by
    intro x hx
    refine zW_rule (fun v σ' m => ∃ k : Nat, (k ≤ M) ∧ v = [0, (c : Int), x, (k : Int)] ∧ m = M - k ∧ σ' = σ ∧ ∀ i, i < k → closeP (σ 13) (σ 14) (σ 26) c i = false) _ ⟨0, by omega, rfl, rfl, rfl, fun i hi => by omega⟩ ?_
    rintro v σ' m ⟨k, hk, rfl, rfl, rfl, hf⟩ KK KE hKK hKE
    simp only [u_eC, u_eV, u_eF, u_eR, u_eI, u_eL, u_eB, u_eD, u_eM, u_eU, u_aN, u_aC, u_eK, u_eT, u_cLt, u_cLe, u_cGt, u_cGe, u_cEq, u_cNe, u_cAnd, u_cOr, u_cNot, u_zN, u_zS, u_zD, u_zL, u_zI, u_zB, u_zP, u_zF, u_zA, u_zU, u_zC, u_zR, u_zRZ, u_zRC, u_zRV, u_zT, u_zE, u_zK, u_zY, ho_nid, List.getD_cons_zero, List.getD_cons_succ, List.set_cons_zero, List.set_cons_succ, List.cons_append, List.nil_append, List.take_succ_cons, List.take_zero, Int.reduceToNat, Int.toNat_natCast, nN_0, nN_1, nN_2, nN_3, nN_4, nN_5, nN_6, nN_7, nN_8, nN_9, nN_10, nN_11, nN_12, nN_13, nN_14, nN_15, nN_16, nN_17, nN_18, nN_19, nN_20, nN_21, nN_22, nN_23, nN_24, nN_25, nN_26, nN_27, nN_28, nN_29, nN_30, nN_31, nN_32, nN_33, nN_34, nN_35, nN_36, nN_37, nN_38, nN_39, nN_40, nN_41, nN_42, nN_43, nN_44, nN_45, nN_46, nN_47, nN_48, nN_49, nN_50, nN_51, nN_52, nN_53, nN_54, nR_0_0, nR_0_1, nR_0_2, nR_0_3, nR_0_4, nR_0_5, nR_0_6, nR_0_7, nR_0_8, nR_0_9, nR_0_10, nR_1_0, nR_1_1, nR_1_2, nR_1_3, nR_1_4, nR_2_0, nR_2_1, nR_2_2, nR_2_3, nR_2_4, nR_3_0, nR_3_1, nR_4_2, nR_5_2, nR_6_0, nR_6_1, nR_6_2, nR_7_0, nR_30_2, nR_30_3, nR_30_4, nR_30_6, nR_30_7, nR_30_9, nR_30_10, nR_30_11, nR_30_12, nR_30_13, nR_30_14, nR_30_15, nR_30_16, nR_30_18, nR_30_19, nR_30_20, nR_30_21, nR_30_22, nR_30_23, nR_30_24, nR_30_28, nR_30_29, nR_30_31, n00, n01, true_or, or_true, true_and, hM, sp_item, inc (show k < 100000 by omega)]
    have nx : k < M → closeP (σ' 13) (σ' 14) (σ' 26) c k = false → KK [0, (c : Int), x, ((k + 1 : Nat) : Int)] σ' := fun hk9 z => hKK _ _ (M - (k + 1)) (by omega) ⟨k + 1, by omega, rfl, rfl, rfl, fun i hi => by
      by_cases w : i = k
      · subst w; exact z
      · exact hf i (by omega)⟩
    refine ⟨fun c1 => ?_, fun c1 => hKE _ ?_⟩
    · have hk9 : k < M := by omega
      rw [gi26 (by omega)]
      have tk := ht k hk9
      have tc := ht c hc
      have alike : (σ' 26 k = 3 ↔ σ' 26 c = 3) → mX5_isIn [2, (k : Int)] σ' (fun a σ => (a ≠ 0 → mX6_followsClosely [0, (k : Int), (c : Int)] σ (fun a σ => (a ≠ 0 → Q 1 σ) ∧ (a = 0 → KK [0, (c : Int), x, ((k + 1 : Nat) : Int)] σ)) X) ∧ (a = 0 → KK [0, (c : Int), x, ((k + 1 : Nat) : Int)] σ)) X := by
        intro z
        refine sp_isIn.mpr ?_
        rw [gi14 (by omega)]
        simp only [ite01, ite01e]
        refine ⟨fun y => ?_, fun y => nx hk9 (decide_eq_false (fun w => y w.2.1))⟩
        refine sp_follows (by omega) (by omega) rfl rfl rfl (by omega) (by omega) (by omega) ?_
        simp only [bI_ne, bI_eq]
        refine ⟨fun w => ?_, fun w => nx hk9 (decide_eq_false (fun w' => w w'.2.2))⟩
        have e9 : anyb (closeP (σ' 13) (σ' 14) (σ' 26) c) M = true := anyb_t hk9 (decide_eq_true ⟨z, y, w⟩)
        rw [e9] at hQ
        exact hQ
      have other : ¬ (σ' 26 k = 3 ↔ σ' 26 c = 3) → KK [0, (c : Int), x, ((k + 1 : Nat) : Int)] σ' := fun z => nx hk9 (decide_eq_false (fun w => z w.1))
      have z1 : ((0 : Int) ≠ 0) = False := by simp
      have z2 : ((1 : Int) ≠ 0) = True := by simp
      have z3 : ((0 : Int) = 0) = True := by simp
      have z4 : ((1 : Int) = 0) = False := by simp
      simp only [z1, z2, z3, z4, false_implies, true_implies, and_true, true_and]
      by_cases zc : σ' 26 c = 3
      · have hx1 : x = 1 := by rw [hx, if_pos zc]
        rw [hx1] at alike other ⊢
        refine ⟨fun zk => ⟨fun _ => alike ⟨fun _ => zc, fun _ => zk⟩, fun y => absurd rfl y⟩, fun zk => ⟨fun y => absurd y (by decide), fun _ => other (fun w => zk (w.mpr zc))⟩⟩
      · have hx1 : x = 0 := by rw [hx, if_neg zc]
        rw [hx1] at alike other ⊢
        refine ⟨fun zk => ⟨fun y => absurd y (by decide), fun _ => other (fun w => zc (w.mp zk))⟩, fun zk => ⟨fun _ => alike ⟨fun w => absurd w zk, fun w => absurd w zc⟩, fun y => absurd rfl y⟩⟩
    · have e9 : anyb (closeP (σ' 13) (σ' 14) (σ' 26) c) M = false := anyb_f (fun i hi => hf i (by omega))
      rw [e9] at hQ
      exact hQ
  exact ⟨fun z => main 1 (by rw [if_pos z]), fun z => main 0 (by rw [if_neg z])⟩
theorem TXT_out {σ : ho_S} {t n i : Nat} {T : Nat → Int} (h : TXT σ t n T) (hi : n ≤ i) : T i = 0 := by
  rw [← h.2.2, tx_out (by rw [h.1]; omega)]
theorem sp_lacks {T : Nat → Int} {t n : Nat} {σ : ho_S} {Q : ho_K} {X : ho_X} (ht : t < 80) (hT : TXT σ t n T) (hQ : Q (if (decide (0 < n) && !voB T n) = true then 1 else 0) σ) : mX6_lacksVoices [0, (t : Int)] σ Q X := by
  have hn := hT.2.1
  have g0 : ∀ (Q' : ho_K), mX4_sign [3, (t : Int), 0] σ Q' X ↔ Q' (T 0) σ := fun Q' => sp_signT (i := 0) ht hT
  simp only [mX6_lacksVoices, fX6_lacksVoices, u_eC, u_eV, u_eF, u_eR, u_eI, u_eL, u_eB, u_eD, u_eM, u_eU, u_aN, u_aC, u_eK, u_eT, u_cLt, u_cLe, u_cGt, u_cGe, u_cEq, u_cNe, u_cAnd, u_cOr, u_cNot, u_zN, u_zS, u_zD, u_zL, u_zI, u_zB, u_zP, u_zF, u_zA, u_zU, u_zC, u_zR, u_zRZ, u_zRC, u_zRV, u_zT, u_zE, u_zK, u_zY, ho_nid, List.getD_cons_zero, List.getD_cons_succ, List.set_cons_zero, List.set_cons_succ, List.cons_append, List.nil_append, List.take_succ_cons, List.take_zero, Int.reduceToNat, Int.toNat_natCast, nN_0, nN_1, nN_2, nN_3, nN_4, nN_5, nN_6, nN_7, nN_8, nN_9, nN_10, nN_11, nN_12, nN_13, nN_14, nN_15, nN_16, nN_17, nN_18, nN_19, nN_20, nN_21, nN_22, nN_23, nN_24, nN_25, nN_26, nN_27, nN_28, nN_29, nN_30, nN_31, nN_32, nN_33, nN_34, nN_35, nN_36, nN_37, nN_38, nN_39, nN_40, nN_41, nN_42, nN_43, nN_44, nN_45, nN_46, nN_47, nN_48, nN_49, nN_50, nN_51, nN_52, nN_53, nN_54, nR_0_0, nR_0_1, nR_0_2, nR_0_3, nR_0_4, nR_0_5, nR_0_6, nR_0_7, nR_0_8, nR_0_9, nR_0_10, nR_1_0, nR_1_1, nR_1_2, nR_1_3, nR_1_4, nR_2_0, nR_2_1, nR_2_2, nR_2_3, nR_2_4, nR_3_0, nR_3_1, nR_4_2, nR_5_2, nR_6_0, nR_6_1, nR_6_2, nR_7_0, nR_30_2, nR_30_3, nR_30_4, nR_30_6, nR_30_7, nR_30_9, nR_30_10, nR_30_11, nR_30_12, nR_30_13, nR_30_14, nR_30_15, nR_30_16, nR_30_18, nR_30_19, nR_30_20, nR_30_21, nR_30_22, nR_30_23, nR_30_24, nR_30_28, nR_30_29, nR_30_31, n00, n01, true_or, or_true, true_and, sp_sizeT ht hT, g0]
  have fin : ∀ x : Int, (x = if T 0 = 45 then 1 else 0) → ((0 : Int) < (n : Int) → (1 + cnt (brP T) n ≠ 2 → Q 1 σ) ∧ (1 + cnt (brP T) n = 2 → (x + cnt (bdP T) n ≠ 2 → Q 1 σ) ∧ (x + cnt (bdP T) n = 2 → Q 0 σ))) ∧ ((n : Int) ≤ 0 → Q 0 σ) := by
    intro x hx
    have le := bd_le T n
    have key : ∀ y : Int, (¬ (decide (0 < n) && !voB T n) = true → y = 0) → ((decide (0 < n) && !voB T n) = true → y = 1) → Q y σ := by
      intro y y0 y1
      by_cases z : (decide (0 < n) && !voB T n) = true
      · rw [y1 z]; rw [if_pos z] at hQ; exact hQ
      · rw [y0 z]; rw [if_neg z] at hQ; exact hQ
    have kk : (decide (0 < n) && !voB T n) = true ↔ (0 < n ∧ ¬ (T 0 = 45 ∧ cnt (brP T) n = 1 ∧ cnt (bdP T) n = 1)) := by
      unfold voB
      simp only [Bool.and_eq_true, decide_eq_true_eq, Bool.not_eq_true', decide_eq_false_iff_not]
    have xx : (x = 1 ∧ T 0 = 45) ∨ (x = 0 ∧ T 0 ≠ 45) := by
      by_cases z : T 0 = 45
      · exact Or.inl ⟨by rw [hx, if_pos z], z⟩
      · exact Or.inr ⟨by rw [hx, if_neg z], z⟩
    refine ⟨fun d1 => ⟨fun d2 => key 1 (fun z => absurd (kk.mpr ⟨by omega, fun w => d2 (by omega)⟩) z) (fun _ => rfl), fun d2 => ⟨fun d3 => key 1 (fun z => absurd (kk.mpr ⟨by omega, fun w => d3 (by omega)⟩) z) (fun _ => rfl), fun d3 => key 0 (fun _ => rfl) (fun z => absurd ?_ (kk.mp z).2)⟩⟩, fun d1 => key 0 (fun _ => rfl) (fun z => by have := (kk.mp z).1; omega)⟩
    omega
  have main : ∀ (x : Int) (Q9 : List Int → ho_S → Prop), (x = if T 0 = 45 then 1 else 0) → Q9 [0, (t : Int), (n : Int), 1 + cnt (brP T) n, x + cnt (bdP T) n, (n : Int)] σ → zW (cLt (eV 5) (eV 2)) (zS (zC (cEq (eK mX4_sign (aC (eR (eV 0) 2) (aC (eV 1) (aC (eV 5) aN)))) (eC 10)) (zS (zI 3 1) (zL 4 (eB ho_oadd (eV 4) (eT (cEq (eK mX4_sign (aC (eR (eV 0) 2) (aC (eV 1) (aC (eB ho_oadd (eV 5) (eC 1)) aN)))) (eC 45)) (eC 1) (eC 0))))) zN) (zI 5 1)) [0, (t : Int), (n : Int), 1, x, 0] σ Q9 Q X := by
    intro x Q9 hx hQ9
    refine zW_rule (fun v σ' m => ∃ k : Nat, (k ≤ n) ∧ v = [0, (t : Int), (n : Int), 1 + cnt (brP T) k, x + cnt (bdP T) k, (k : Int)] ∧ m = n - k ∧ σ' = σ) _ ⟨0, by omega, by show _ = [0, (t : Int), (n : Int), 1 + 0, x + 0, (0 : Int)]; rw [Int.add_zero, Int.add_zero], rfl, rfl⟩ ?_
    rintro v σ' m ⟨k, hk, rfl, rfl, rfl⟩ KK KE hKK hKE
    have r1 := cnt_range (brP T) k
    have r2 := cnt_range (bdP T) k
    have rx : 0 ≤ x ∧ x ≤ 1 := by rw [hx]; split <;> omega
    simp only [u_eC, u_eV, u_eF, u_eR, u_eI, u_eL, u_eB, u_eD, u_eM, u_eU, u_aN, u_aC, u_eK, u_eT, u_cLt, u_cLe, u_cGt, u_cGe, u_cEq, u_cNe, u_cAnd, u_cOr, u_cNot, u_zN, u_zS, u_zD, u_zL, u_zI, u_zB, u_zP, u_zF, u_zA, u_zU, u_zC, u_zR, u_zRZ, u_zRC, u_zRV, u_zT, u_zE, u_zK, u_zY, ho_nid, List.getD_cons_zero, List.getD_cons_succ, List.set_cons_zero, List.set_cons_succ, List.cons_append, List.nil_append, List.take_succ_cons, List.take_zero, Int.reduceToNat, Int.toNat_natCast, nN_0, nN_1, nN_2, nN_3, nN_4, nN_5, nN_6, nN_7, nN_8, nN_9, nN_10, nN_11, nN_12, nN_13, nN_14, nN_15, nN_16, nN_17, nN_18, nN_19, nN_20, nN_21, nN_22, nN_23, nN_24, nN_25, nN_26, nN_27, nN_28, nN_29, nN_30, nN_31, nN_32, nN_33, nN_34, nN_35, nN_36, nN_37, nN_38, nN_39, nN_40, nN_41, nN_42, nN_43, nN_44, nN_45, nN_46, nN_47, nN_48, nN_49, nN_50, nN_51, nN_52, nN_53, nN_54, nR_0_0, nR_0_1, nR_0_2, nR_0_3, nR_0_4, nR_0_5, nR_0_6, nR_0_7, nR_0_8, nR_0_9, nR_0_10, nR_1_0, nR_1_1, nR_1_2, nR_1_3, nR_1_4, nR_2_0, nR_2_1, nR_2_2, nR_2_3, nR_2_4, nR_3_0, nR_3_1, nR_4_2, nR_5_2, nR_6_0, nR_6_1, nR_6_2, nR_7_0, nR_30_2, nR_30_3, nR_30_4, nR_30_6, nR_30_7, nR_30_9, nR_30_10, nR_30_11, nR_30_12, nR_30_13, nR_30_14, nR_30_15, nR_30_16, nR_30_18, nR_30_19, nR_30_20, nR_30_21, nR_30_22, nR_30_23, nR_30_24, nR_30_28, nR_30_29, nR_30_31, oinc (show k < 100000 by omega), inc (show k < 100000 by omega), sp_signT ht hT]
    refine ⟨fun c1 => ⟨fun c2 => ?_, fun c2 => ?_⟩, fun c1 => hKE _ ?_⟩
    · have s1 : cnt (brP T) (k + 1) = cnt (brP T) k + 1 := by
        show cnt (brP T) k + (if brP T k = true then 1 else 0) = _
        rw [if_pos (show brP T k = true from decide_eq_true c2)]
      have w1 : ho_w (1 + cnt (brP T) k + 1) = 1 + cnt (brP T) (k + 1) := by rw [wE (by omega) (by omega), s1]; omega
      rw [w1]
      clear w1
      refine ⟨fun c3 => ?_, fun c3 => ?_⟩
      · have s2 : cnt (bdP T) (k + 1) = cnt (bdP T) k + 1 := by
          show cnt (bdP T) k + (if bdP T k = true then 1 else 0) = _
          rw [if_pos (show bdP T k = true from decide_eq_true ⟨c2, c3⟩)]
        have w2 : ho_oadd (x + cnt (bdP T) k) 1 = x + cnt (bdP T) (k + 1) := by rw [wad (by omega) (by omega), s2]; omega
        rw [w2]
        clear w2
        exact hKK _ _ (n - (k + 1)) (by omega) ⟨k + 1, by omega, rfl, rfl, rfl⟩
      · have s2 : cnt (bdP T) (k + 1) = cnt (bdP T) k + 0 := by
          show cnt (bdP T) k + (if bdP T k = true then 1 else 0) = _
          rw [if_neg (show ¬ bdP T k = true from fun z => c3 (of_decide_eq_true z).2)]
        have w2 : ho_oadd (x + cnt (bdP T) k) 0 = x + cnt (bdP T) (k + 1) := by rw [wad (by omega) (by omega), s2]; omega
        rw [w2]
        clear w2
        exact hKK _ _ (n - (k + 1)) (by omega) ⟨k + 1, by omega, rfl, rfl, rfl⟩
    · have s1 : cnt (brP T) (k + 1) = cnt (brP T) k := by
        show cnt (brP T) k + (if brP T k = true then 1 else 0) = _
        rw [if_neg (show ¬ brP T k = true from fun z => c2 (of_decide_eq_true z))]; omega
      have s2 : cnt (bdP T) (k + 1) = cnt (bdP T) k := by
        show cnt (bdP T) k + (if bdP T k = true then 1 else 0) = _
        rw [if_neg (show ¬ bdP T k = true from fun z => c2 (of_decide_eq_true z).1)]; omega
      rw [← s1, ← s2]
      exact hKK _ _ (n - (k + 1)) (by omega) ⟨k + 1, by omega, rfl, rfl, rfl⟩
    · have hkn : k = n := by omega
      subst hkn
      exact hQ9
  refine ⟨fun z => ?_, fun z => ?_⟩
  · refine main 1 _ (by rw [if_pos z]) ?_
    simp only [u_eC, u_eV, u_eF, u_eR, u_eI, u_eL, u_eB, u_eD, u_eM, u_eU, u_aN, u_aC, u_eK, u_eT, u_cLt, u_cLe, u_cGt, u_cGe, u_cEq, u_cNe, u_cAnd, u_cOr, u_cNot, u_zN, u_zS, u_zD, u_zL, u_zI, u_zB, u_zP, u_zF, u_zA, u_zU, u_zC, u_zR, u_zRZ, u_zRC, u_zRV, u_zT, u_zE, u_zK, u_zY, ho_nid, List.getD_cons_zero, List.getD_cons_succ, List.set_cons_zero, List.set_cons_succ, List.cons_append, List.nil_append, List.take_succ_cons, List.take_zero, Int.reduceToNat, Int.toNat_natCast, nN_0, nN_1, nN_2, nN_3, nN_4, nN_5, nN_6, nN_7, nN_8, nN_9, nN_10, nN_11, nN_12, nN_13, nN_14, nN_15, nN_16, nN_17, nN_18, nN_19, nN_20, nN_21, nN_22, nN_23, nN_24, nN_25, nN_26, nN_27, nN_28, nN_29, nN_30, nN_31, nN_32, nN_33, nN_34, nN_35, nN_36, nN_37, nN_38, nN_39, nN_40, nN_41, nN_42, nN_43, nN_44, nN_45, nN_46, nN_47, nN_48, nN_49, nN_50, nN_51, nN_52, nN_53, nN_54, nR_0_0, nR_0_1, nR_0_2, nR_0_3, nR_0_4, nR_0_5, nR_0_6, nR_0_7, nR_0_8, nR_0_9, nR_0_10, nR_1_0, nR_1_1, nR_1_2, nR_1_3, nR_1_4, nR_2_0, nR_2_1, nR_2_2, nR_2_3, nR_2_4, nR_3_0, nR_3_1, nR_4_2, nR_5_2, nR_6_0, nR_6_1, nR_6_2, nR_7_0, nR_30_2, nR_30_3, nR_30_4, nR_30_6, nR_30_7, nR_30_9, nR_30_10, nR_30_11, nR_30_12, nR_30_13, nR_30_14, nR_30_15, nR_30_16, nR_30_18, nR_30_19, nR_30_20, nR_30_21, nR_30_22, nR_30_23, nR_30_24, nR_30_28, nR_30_29, nR_30_31, n00, n01, true_or, or_true, true_and]
    exact fin 1 (by rw [if_pos z])
  · refine main 0 _ (by rw [if_neg z]) ?_
    simp only [u_eC, u_eV, u_eF, u_eR, u_eI, u_eL, u_eB, u_eD, u_eM, u_eU, u_aN, u_aC, u_eK, u_eT, u_cLt, u_cLe, u_cGt, u_cGe, u_cEq, u_cNe, u_cAnd, u_cOr, u_cNot, u_zN, u_zS, u_zD, u_zL, u_zI, u_zB, u_zP, u_zF, u_zA, u_zU, u_zC, u_zR, u_zRZ, u_zRC, u_zRV, u_zT, u_zE, u_zK, u_zY, ho_nid, List.getD_cons_zero, List.getD_cons_succ, List.set_cons_zero, List.set_cons_succ, List.cons_append, List.nil_append, List.take_succ_cons, List.take_zero, Int.reduceToNat, Int.toNat_natCast, nN_0, nN_1, nN_2, nN_3, nN_4, nN_5, nN_6, nN_7, nN_8, nN_9, nN_10, nN_11, nN_12, nN_13, nN_14, nN_15, nN_16, nN_17, nN_18, nN_19, nN_20, nN_21, nN_22, nN_23, nN_24, nN_25, nN_26, nN_27, nN_28, nN_29, nN_30, nN_31, nN_32, nN_33, nN_34, nN_35, nN_36, nN_37, nN_38, nN_39, nN_40, nN_41, nN_42, nN_43, nN_44, nN_45, nN_46, nN_47, nN_48, nN_49, nN_50, nN_51, nN_52, nN_53, nN_54, nR_0_0, nR_0_1, nR_0_2, nR_0_3, nR_0_4, nR_0_5, nR_0_6, nR_0_7, nR_0_8, nR_0_9, nR_0_10, nR_1_0, nR_1_1, nR_1_2, nR_1_3, nR_1_4, nR_2_0, nR_2_1, nR_2_2, nR_2_3, nR_2_4, nR_3_0, nR_3_1, nR_4_2, nR_5_2, nR_6_0, nR_6_1, nR_6_2, nR_7_0, nR_30_2, nR_30_3, nR_30_4, nR_30_6, nR_30_7, nR_30_9, nR_30_10, nR_30_11, nR_30_12, nR_30_13, nR_30_14, nR_30_15, nR_30_16, nR_30_18, nR_30_19, nR_30_20, nR_30_21, nR_30_22, nR_30_23, nR_30_24, nR_30_28, nR_30_29, nR_30_31, n00, n01, true_or, or_true, true_and]
    exact fin 0 (by rw [if_neg z])
