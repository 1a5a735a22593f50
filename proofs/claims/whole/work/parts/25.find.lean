theorem LR_less {p : Nat → Prop} {n : Nat} {s l : Int} (h : LR p (n + 1) s l) (hn : ¬ p n) : LR p n s l := by
  rcases h with ⟨h1, h2, h3⟩ | ⟨h1, h2, h3, h4, h5⟩
  · exact Or.inl ⟨h1, h2, fun i hi => h3 i (by omega)⟩
  · have : s + l ≤ n := by
      rcases Int.lt_or_le (n : Int) (s + l) with q | q
      · exact absurd (h4 n (by omega) (by omega)) hn
      · exact q
    exact Or.inr ⟨h1, h2, this, h4, fun a b c d e => h5 a b c (by omega) e⟩
theorem mkA_out {σ : ho_S} {p : Int} (h : σ 1 6 ≤ p) : mkA σ p = 0 := if_neg (by omega)
theorem mkA_tri {σ : ho_S} {a b l : Nat → Int} {p : Int} : mkA (tri σ a b l) p = mkA σ p := by
  unfold mkA
  rw [triF (q := 1) (by omega) (by omega) (by omega), triF (q := 8) (by omega) (by omega) (by omega), triF (q := 11) (by omega) (by omega) (by omega)]
def fiC (p : Nat → Prop) (k : Nat) (w : Bool) (a b l : Int) : Prop :=
  if w = true then ∃ q : Nat, a = q ∧ q < k ∧ (∀ i, q ≤ i → i < k → p i) ∧ (q = 0 ∨ ¬ p (q - 1)) ∧ LR p q b l else LR p k b l
theorem fiC_step {p : Nat → Prop} {k : Nat} {w w' : Bool} {a b l : Int} (h : fiC p k w a b l) (hw : k = 0 → w = false) (hp : 0 < k → (w = true ↔ p (k - 1))) (hp' : w' = true ↔ p k) :
    fiC p (k + 1) w' (tA w w' k a) (if tE w w' k a l then a else b) (if tE w w' k a l then k - a else l) := by
  unfold fiC at h ⊢
  cases hw1 : w <;> cases hw2 : w' <;> simp only [hw1, hw2, tA, tE, Bool.false_eq_true, if_false, if_true, ite_true, ite_false, Bool.not_true, Bool.not_false, Bool.true_and, Bool.false_and, Bool.and_false, Bool.and_true, and_self, and_false, and_true, true_and, false_and, decide_eq_true_eq, reduceCtorEq] at h ⊢
  · exact LR_off h (fun z => by have := hp'.mpr z; simp [hw2] at this)
  · refine ⟨k, rfl, by omega, fun i x y => ?_, ?_, h⟩
    · rw [show i = k by omega]; exact hp'.mp hw2
    · rcases Nat.eq_zero_or_pos k with z | z
      · exact Or.inl z
      · right; intro z2
        have := (hp z).mpr z2
        simp [hw1] at this
  · obtain ⟨q, rfl, h2, h3, h4, h5⟩ := h
    have hk : ¬ p k := fun z => by have := hp'.mpr z; simp [hw2] at this
    exact LR_off (LR_run h5 h2 h3 h4) hk
  · obtain ⟨q, rfl, h2, h3, h4, h5⟩ := h
    refine ⟨q, rfl, by omega, fun i x y => ?_, h4, h5⟩
    by_cases z : i = k
    · subst z; exact hp'.mp hw2
    · exact h3 i x (by omega)
theorem fiC_same {p : Nat → Prop} {k : Nat} {w : Bool} {a b l : Int} (h : fiC p k w a b l) (hp' : w = true ↔ p k) : fiC p (k + 1) w a b l := by
  unfold fiC at h ⊢
  cases hw1 : w <;> simp only [hw1, Bool.false_eq_true, if_false, if_true, ite_true, ite_false] at h ⊢
  · exact LR_off h (fun z => by have := hp'.mpr z; simp [hw1] at this)
  · obtain ⟨q, h1, h2, h3, h4, h5⟩ := h
    refine ⟨q, h1, by omega, fun i x y => ?_, h4, h5⟩
    by_cases z : i = k
    · subst z; exact hp'.mp hw1
    · exact h3 i x (by omega)
theorem sp_find {n : Nat} {σ : ho_S} {Q : ho_K} {X : ho_X} (hn : σ 1 6 = n) (hn1 : n ≤ 4800) (hm : ∀ i : Nat, ∃ x : Nat, mkA σ i = x ∧ x < 65536) (ha : ∀ c, c < 16 → 0 ≤ σ 15 c ∧ σ 15 c ≤ 4800)
    (h : ∀ a b l : Nat → Int, (∀ c, c < 16 → 0 ≤ a c ∧ a c ≤ 4800) → (∀ c, c < 16 → LR (fun i => bit (mkA σ i) c = true) n (b c) (l c)) →
      Q (cnt (fun c => decide (b c ≠ σ 13 c) || decide (l c ≠ σ 14 c)) 16) (sa (sa (tri σ a b l) 13 (fun c => if c < 16 then b c else σ 13 c)) 14 (fun c => if c < 16 then l c else σ 14 c))) : mX5_find [2, 1] σ Q X := by
  simp only [mX5_find, fX5_find, u_eC, u_eV, u_eF, u_eR, u_eI, u_eL, u_eB, u_eD, u_eM, u_eU, u_aN, u_aC, u_eK, u_eT, u_cLt, u_cLe, u_cGt, u_cGe, u_cEq, u_cNe, u_cAnd, u_cOr, u_cNot, u_zN, u_zS, u_zD, u_zL, u_zI, u_zB, u_zP, u_zF, u_zA, u_zU, u_zC, u_zR, u_zRZ, u_zRC, u_zRV, u_zT, u_zE, u_zK, u_zY, ho_nid, List.getD_cons_zero, List.getD_cons_succ, List.set_cons_zero, List.set_cons_succ, List.cons_append, List.nil_append, List.take_succ_cons, List.take_zero, Int.reduceToNat, Int.toNat_natCast, nN_0, nN_1, nN_2, nN_3, nN_4, nN_5, nN_6, nN_7, nN_8, nN_9, nN_10, nN_11, nN_12, nN_13, nN_14, nN_15, nN_16, nN_17, nN_18, nN_19, nN_20, nN_21, nN_22, nN_23, nN_24, nN_25, nN_26, nN_27, nN_28, nN_29, nN_30, nN_31, nN_32, nN_33, nN_34, nN_35, nN_36, nN_37, nN_38, nN_39, nN_40, nN_41, nN_42, nN_43, nN_44, nN_45, nN_46, nN_47, nN_48, nN_49, nN_50, nN_51, nN_52, nN_53, nN_54, nR_0_0, nR_0_1, nR_0_2, nR_0_3, nR_0_4, nR_0_5, nR_0_6, nR_0_7, nR_0_8, nR_0_9, nR_0_10, nR_1_0, nR_1_1, nR_1_2, nR_1_3, nR_1_4, nR_2_0, nR_2_1, nR_2_2, nR_2_3, nR_2_4, nR_3_0, nR_3_1, nR_4_2, nR_5_2, nR_6_0, nR_6_1, nR_6_2, nR_7_0, nR_30_2, nR_30_3, nR_30_4, nR_30_6, nR_30_7, nR_30_9, nR_30_10, nR_30_11, nR_30_12, nR_30_13, nR_30_14, nR_30_15, nR_30_16, nR_30_18, nR_30_19, nR_30_20, nR_30_21, nR_30_22, nR_30_23, nR_30_24, nR_30_28, nR_30_29, nR_30_31]
  refine sp_afill (by show (16 : Int) < 100000; omega) ?_
  refine sp_afill (by show (16 : Int) < 100000; omega) ?_
  refine zW_rule (fun v σ' m => ∃ (k w : Nat) (a b l : Nat → Int), k ≤ n + 1 ∧ v = [2, 1, (w : Int), (k : Int)] ∧ m = n + 1 - k ∧ σ' = tri σ a b l ∧ w < 65536 ∧ (k = 0 → w = 0) ∧ (0 < k → (w : Int) = mkA σ ((k - 1 : Nat) : Int)) ∧ (∀ c, c < 16 → 0 ≤ a c ∧ a c ≤ 4800) ∧ ∀ c, c < 16 → fiC (fun i => bit (mkA σ i) c = true) k (bit w c) (a c) (b c) (l c)) _
    ⟨0, 0, σ 15, fun j => if j < 16 then -1 else σ 16 j, fun j => if j < 16 then 0 else σ 17 j, by omega, rfl, rfl, ?_, by omega, fun _ => rfl, fun z => by omega, ha, fun c hc => ?_⟩ ?_
  · show sa (sa σ 16 _) 17 _ = _
    unfold tri
    rw [sa_id]
    rfl
  · have : bit ((0 : Nat) : Int) c = false := bit_zero c
    unfold fiC
    simp only [this, if_pos hc]
    exact LR_nil
  rintro v σ' m ⟨k, w, a, b, l, hk, rfl, rfl, rfl, hw, hw0, hw1, hab, hI⟩ KK KE hKK hKE
  simp only [u_eC, u_eV, u_eF, u_eR, u_eI, u_eL, u_eB, u_eD, u_eM, u_eU, u_aN, u_aC, u_eK, u_eT, u_cLt, u_cLe, u_cGt, u_cGe, u_cEq, u_cNe, u_cAnd, u_cOr, u_cNot, u_zN, u_zS, u_zD, u_zL, u_zI, u_zB, u_zP, u_zF, u_zA, u_zU, u_zC, u_zR, u_zRZ, u_zRC, u_zRV, u_zT, u_zE, u_zK, u_zY, ho_nid, List.getD_cons_zero, List.getD_cons_succ, List.set_cons_zero, List.set_cons_succ, List.cons_append, List.nil_append, List.take_succ_cons, List.take_zero, Int.reduceToNat, Int.toNat_natCast, nN_0, nN_1, nN_2, nN_3, nN_4, nN_5, nN_6, nN_7, nN_8, nN_9, nN_10, nN_11, nN_12, nN_13, nN_14, nN_15, nN_16, nN_17, nN_18, nN_19, nN_20, nN_21, nN_22, nN_23, nN_24, nN_25, nN_26, nN_27, nN_28, nN_29, nN_30, nN_31, nN_32, nN_33, nN_34, nN_35, nN_36, nN_37, nN_38, nN_39, nN_40, nN_41, nN_42, nN_43, nN_44, nN_45, nN_46, nN_47, nN_48, nN_49, nN_50, nN_51, nN_52, nN_53, nN_54, nR_0_0, nR_0_1, nR_0_2, nR_0_3, nR_0_4, nR_0_5, nR_0_6, nR_0_7, nR_0_8, nR_0_9, nR_0_10, nR_1_0, nR_1_1, nR_1_2, nR_1_3, nR_1_4, nR_2_0, nR_2_1, nR_2_2, nR_2_3, nR_2_4, nR_3_0, nR_3_1, nR_4_2, nR_5_2, nR_6_0, nR_6_1, nR_6_2, nR_7_0, nR_30_2, nR_30_3, nR_30_4, nR_30_6, nR_30_7, nR_30_9, nR_30_10, nR_30_11, nR_30_12, nR_30_13, nR_30_14, nR_30_15, nR_30_16, nR_30_18, nR_30_19, nR_30_20, nR_30_21, nR_30_22, nR_30_23, nR_30_24, nR_30_28, nR_30_29, nR_30_31, sp_fsize, sp_marksAt, mkA_tri]
  have e1 : (tri σ a b l) 1 6 = n := by rw [triF (by omega) (by omega) (by omega)]; exact hn
  rw [e1]
  refine ⟨fun c1 => ?_, fun c1 => hKE _ ?_⟩
  · obtain ⟨x, hx, hx2⟩ := hm k
    rw [hx]
    have hpx : ∀ c, (bit (x : Int) c = true ↔ (fun i : Nat => bit (mkA σ i) c = true) k) := fun c => by show _ ↔ bit (mkA σ k) c = true; rw [hx]
    have hpw : ∀ c, 0 < k → (bit (w : Int) c = true ↔ (fun i : Nat => bit (mkA σ i) c = true) (k - 1)) := fun c z => by
      show _ ↔ bit (mkA σ ((k - 1 : Nat) : Int)) c = true
      rw [← hw1 z]
    have hpz : ∀ c, k = 0 → bit (w : Int) c = false := fun c z => by rw [hw0 z]; exact bit_zero c
    have ek : ho_w ((k : Int) + 1) = ((k + 1 : Nat) : Int) := by rw [wE (by omega) (by omega)]; simp
    rw [ek]
    refine ⟨fun q => ?_, fun q => ?_⟩
    · refine sp_turn (by omega) (by omega) (by omega) (by omega) (fun c hc => by exact hab c hc) (fun a' b' l' h' => ?_)
      have e2 : tri (tri σ a b l) a' b' l' = tri σ a' b' l' := by
        funext q j
        unfold tri sa
        by_cases h1 : q = 17
        · subst h1; simp
        · by_cases h2 : q = 16
          · subst h2; simp
          · by_cases h3 : q = 15
            · subst h3; simp
            · simp [h1, h2, h3]
      have t15 : (tri σ a b l) 15 = a := by funext j; simp [tri, sa]
      have t16 : (tri σ a b l) 16 = b := by funext j; simp [tri, sa]
      have t17 : (tri σ a b l) 17 = l := by funext j; simp [tri, sa]
      rw [t15, t16, t17] at h'
      rw [e2]
      refine hKK _ _ (n + 1 - (k + 1)) (by omega) ⟨k + 1, x, a', b', l', by omega, rfl, rfl, rfl, by omega, fun z => by omega, fun _ => by simp [hx], fun c hc => ?_, fun c hc => ?_⟩
      · rw [(h' c hc).1]
        unfold tA
        have := hab c hc
        split <;> omega
      · rw [(h' c hc).1, (h' c hc).2.1, (h' c hc).2.2]
        exact fiC_step (hI c hc) (hpz c) (hpw c) (hpx c)
    · have q2 : x = w := by omega
      subst q2
      exact hKK _ _ (n + 1 - (k + 1)) (by omega) ⟨k + 1, x, a, b, l, by omega, rfl, rfl, rfl, by omega, fun z => by omega, fun _ => by simp [hx], hab, fun c hc => fiC_same (hI c hc) (hpx c)⟩
  · have hkn : k = n + 1 := by omega
    subst hkn
    have hw2 : (w : Int) = 0 := by rw [hw1 (by omega)]; exact mkA_out (by rw [hn]; simp)
    refine sp_takeLongest ?_
    have t13 : (tri σ a b l) 13 = σ 13 := triF (by omega) (by omega) (by omega)
    have t14 : (tri σ a b l) 14 = σ 14 := triF (by omega) (by omega) (by omega)
    have t16 : (tri σ a b l) 16 = b := by funext j; simp [tri, sa]
    have t17 : (tri σ a b l) 17 = l := by funext j; simp [tri, sa]
    rw [t13, t14, t16, t17]
    refine h a b l hab (fun c hc => ?_)
    have := hI c hc
    unfold fiC at this
    rw [hw2, bit_zero] at this
    simp only [Bool.false_eq_true, if_false] at this
    refine LR_less this ?_
    show ¬ bit (mkA σ n) c = true
    rw [mkA_out (by rw [hn]; simp), bit_zero]
    simp
