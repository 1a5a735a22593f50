/-- lay: what the bits become -/
def clr (x : Int) (c : Nat) : Int := ho_oand x (ho_oxor (ho_oshl 1 (c : Int)) (-1))
def orb (x : Int) (c : Nat) : Int := ho_oor x (ho_oshl 1 (c : Int))
theorem clr_ok {x : Int} {c : Nat} (hx : ∃ y : Nat, x = y ∧ y < 65536) (hc : c < 16) : ∃ y : Nat, clr x c = y ∧ y < 65536 := by
  obtain ⟨y, rfl, hy⟩ := hx
  obtain ⟨z, h1, h2⟩ := clr_le (x := y) (c := c) (by omega) (by omega)
  exact ⟨z, h1, by omega⟩
theorem orb_ok {x : Int} {c : Nat} (hx : ∃ y : Nat, x = y ∧ y < 65536) (hc : c < 16) : ∃ y : Nat, orb x c = y ∧ y < 65536 := by
  obtain ⟨y, rfl, hy⟩ := hx
  exact or_lt (n := 16) hy hc (by omega)
theorem clr_bit {x : Int} {c d : Nat} (hx : ∃ y : Nat, x = y ∧ y < 65536) (hc : c < 16) (hd : d < 16) : bit (clr x c) d = (bit x d && decide (c ≠ d)) := by
  obtain ⟨y, rfl, hy⟩ := hx
  exact bit_clr (by omega) (by omega) (by omega)
theorem orb_bit {x : Int} {c d : Nat} (hx : ∃ y : Nat, x = y ∧ y < 65536) (hc : c < 16) : bit (orb x c) d = (bit x d || decide (c = d)) := by
  obtain ⟨y, rfl, hy⟩ := hx
  exact bit_or (by omega) (by omega)
theorem clr_id {x : Int} {c : Nat} (hx : ∃ y : Nat, x = y ∧ y < 65536) (hc : c < 16) (hb : bit x c = false) : clr x c = x := by
  have h1 := clr_ok hx hc
  obtain ⟨y, rfl, hy⟩ := hx
  obtain ⟨z, hz, hz2⟩ := h1
  rw [hz]
  congr 1
  refine Nat.eq_of_testBit_eq fun d => ?_
  have e : ∀ w : Nat, w < 65536 → 16 ≤ d → w.testBit d = false := fun w hw hd => Nat.testBit_lt_two_pow (Nat.lt_of_lt_of_le hw (Nat.pow_le_pow_right (n := 2) (by omega) hd))
  by_cases hd : d < 16
  · have := clr_bit (x := (y : Int)) ⟨y, rfl, hy⟩ hc hd
    rw [hz] at this
    show bit (z : Int) d = bit (y : Int) d
    rw [this]
    by_cases q : c = d
    · subst q; rw [hb]; rfl
    · simp [q]
  · rw [e z hz2 (by omega), e y hy (by omega)]
/-- what lies on frames, when a caption is laid on a stretch of the film -/
def laid (x : Nat → Int) (c : Nat) (f : Nat → Int) (a n : Nat) : Nat → Nat → Prop := fun k _ => ∃ i, a ≤ i ∧ i < a + n ∧ (f i).toNat = k
theorem sp_lays {c n : Nat} {a m : Int} {σ : ho_S} {Q : ho_K} {X : ho_X} (hc : c < 16) (h0 : 0 ≤ σ 30 1) (h1 : σ 30 1 ≤ 12) (hn : σ 30 5 = n) (h3 : n ≤ 4800) (ha : 0 ≤ a) (hm : 1 ≤ m) (ham : a + m ≤ n) (hf : ∀ i : Nat, i < n → 0 ≤ σ 34 i ∧ σ 34 i < 400 * σ 30 1) (hinj : ∀ i j : Nat, i < n → j < n → (σ 34 i).toNat = (σ 34 j).toNat → i = j) (hl : bitsOK (σ 33))
    (h : ∀ (L : Nat → Int) (s l : Int), (∀ i : Nat, a ≤ i → (i : Int) < a + m → L (σ 34 i).toNat = orb (clr (σ 33 (σ 34 i).toNat) c) c) → (∀ k : Nat, (∀ i : Nat, a ≤ i → (i : Int) < a + m → (σ 34 i).toNat ≠ k) → L k = if (k : Int) < 400 * σ 30 1 then clr (σ 33 k) c else σ 33 k) → LR (fun i => bit (L (σ 34 i).toNat) c = true) n s l → Q 0 (ho_up (ho_up (sa σ 33 L) 37 c s) 38 c l)) : mX7_lays [30, (c : Int), a, m] σ Q X := by
  simp only [mX7_lays, fX7_lays, u_eC, u_eV, u_eF, u_eR, u_eI, u_eL, u_eB, u_eD, u_eM, u_eU, u_aN, u_aC, u_eK, u_eT, u_cLt, u_cLe, u_cGt, u_cGe, u_cEq, u_cNe, u_cAnd, u_cOr, u_cNot, u_zN, u_zS, u_zD, u_zL, u_zI, u_zB, u_zP, u_zF, u_zA, u_zU, u_zC, u_zR, u_zRZ, u_zRC, u_zRV, u_zT, u_zE, u_zK, u_zY, ho_nid, List.getD_cons_zero, List.getD_cons_succ, List.set_cons_zero, List.set_cons_succ, List.cons_append, List.nil_append, List.take_succ_cons, List.take_zero, Int.reduceToNat, Int.toNat_natCast, nN_0, nN_1, nN_2, nN_3, nN_4, nN_5, nN_6, nN_7, nN_8, nN_9, nN_10, nN_11, nN_12, nN_13, nN_14, nN_15, nN_16, nN_17, nN_18, nN_19, nN_20, nN_21, nN_22, nN_23, nN_24, nN_25, nN_26, nN_27, nN_28, nN_29, nN_30, nN_31, nN_32, nN_33, nN_34, nN_35, nN_36, nN_37, nN_38, nN_39, nN_40, nN_41, nN_42, nN_43, nN_44, nN_45, nN_46, nN_47, nN_48, nN_49, nN_50, nN_51, nN_52, nN_53, nN_54, nR_0_0, nR_0_1, nR_0_2, nR_0_3, nR_0_4, nR_0_5, nR_0_6, nR_0_7, nR_0_8, nR_0_9, nR_0_10, nR_1_0, nR_1_1, nR_1_2, nR_1_3, nR_1_4, nR_2_0, nR_2_1, nR_2_2, nR_2_3, nR_2_4, nR_3_0, nR_3_1, nR_4_2, nR_5_2, nR_6_0, nR_6_1, nR_6_2, nR_7_0, nR_30_2, nR_30_3, nR_30_4, nR_30_6, nR_30_7, nR_30_9, nR_30_10, nR_30_11, nR_30_12, nR_30_13, nR_30_14, nR_30_15, nR_30_16, nR_30_18, nR_30_19, nR_30_20, nR_30_21, nR_30_22, nR_30_23, nR_30_24, nR_30_28, nR_30_29, nR_30_31]
  have e0 : ho_omul 400 (σ 30 1) = 400 * σ 30 1 := wE (by omega) (by omega)
  refine zW_rule (fun v σ' z => ∃ k : Nat, (k : Int) ≤ 400 * σ 30 1 ∧ v = [30, (c : Int), a, m, (k : Int)] ∧ z = (400 * σ 30 1).toNat - k ∧ σ' = sa σ 33 (fun j => if j < k then clr (σ 33 j) c else σ 33 j)) _ ⟨0, by omega, rfl, rfl, by
    rw [show (fun j => if j < 0 then clr (σ 33 j) c else σ 33 j) = σ 33 from funext fun j => if_neg (by omega), sa_id]⟩ ?_
  rintro v σ' z ⟨k, hk, rfl, rfl, rfl⟩ KK KE hKK hKE
  simp only [u_eC, u_eV, u_eF, u_eR, u_eI, u_eL, u_eB, u_eD, u_eM, u_eU, u_aN, u_aC, u_eK, u_eT, u_cLt, u_cLe, u_cGt, u_cGe, u_cEq, u_cNe, u_cAnd, u_cOr, u_cNot, u_zN, u_zS, u_zD, u_zL, u_zI, u_zB, u_zP, u_zF, u_zA, u_zU, u_zC, u_zR, u_zRZ, u_zRC, u_zRV, u_zT, u_zE, u_zK, u_zY, ho_nid, List.getD_cons_zero, List.getD_cons_succ, List.set_cons_zero, List.set_cons_succ, List.cons_append, List.nil_append, List.take_succ_cons, List.take_zero, Int.reduceToNat, Int.toNat_natCast, nN_0, nN_1, nN_2, nN_3, nN_4, nN_5, nN_6, nN_7, nN_8, nN_9, nN_10, nN_11, nN_12, nN_13, nN_14, nN_15, nN_16, nN_17, nN_18, nN_19, nN_20, nN_21, nN_22, nN_23, nN_24, nN_25, nN_26, nN_27, nN_28, nN_29, nN_30, nN_31, nN_32, nN_33, nN_34, nN_35, nN_36, nN_37, nN_38, nN_39, nN_40, nN_41, nN_42, nN_43, nN_44, nN_45, nN_46, nN_47, nN_48, nN_49, nN_50, nN_51, nN_52, nN_53, nN_54, nR_0_0, nR_0_1, nR_0_2, nR_0_3, nR_0_4, nR_0_5, nR_0_6, nR_0_7, nR_0_8, nR_0_9, nR_0_10, nR_1_0, nR_1_1, nR_1_2, nR_1_3, nR_1_4, nR_2_0, nR_2_1, nR_2_2, nR_2_3, nR_2_4, nR_3_0, nR_3_1, nR_4_2, nR_5_2, nR_6_0, nR_6_1, nR_6_2, nR_7_0, nR_30_2, nR_30_3, nR_30_4, nR_30_6, nR_30_7, nR_30_9, nR_30_10, nR_30_11, nR_30_12, nR_30_13, nR_30_14, nR_30_15, nR_30_16, nR_30_18, nR_30_19, nR_30_20, nR_30_21, nR_30_22, nR_30_23, nR_30_24, nR_30_28, nR_30_29, nR_30_31, saF, saE, ho_upF, ho_upE, ne_eq, not_false_eq_true, Nat.reduceEqDiff]
  simp only [mR_30_2, mR_30_3, mR_30_4, mR_30_6, mR_30_7, mR_30_9, mR_30_10, mR_30_11, mR_30_12, mR_30_13, mR_30_14, mR_30_15, mR_30_16, mR_30_18, mR_30_19, mR_30_20, mR_30_21, mR_30_22, mR_30_23, mR_30_24, mR_30_28, mR_30_29, mR_30_31, mR_0_9, mR_7_0, nN_25, nN_26, nN_27, nN_28, nN_29, nN_30, nN_31, nN_32, nN_33, nN_34, nN_35, nN_36, nN_37, nN_38, nN_39, nN_40, nN_41, nN_42, nN_43, nN_44, nN_45, nN_46, nN_47, nN_48, nN_49, nN_50, nN_51, nN_52, nN_53, nN_54, Int.toNat_natCast, saF, saE, ho_upF, ho_upE, ne_eq, not_false_eq_true, Nat.reduceEqDiff]
  rw [e0]
  clear e0
  refine ⟨fun c1 => ?_, fun c1 => hKE _ ?_⟩
  · have e2 : ho_w ((k : Int) + 1) = ((k + 1 : Nat) : Int) := by rw [wE (by omega) (by omega)]; simp
    rw [e2]
    clear e2
    refine ⟨by omega, hKK _ _ ((400 * σ 30 1).toNat - (k + 1)) (by omega) ⟨k + 1, by omega, rfl, rfl, ?_⟩⟩
    rw [sa_up]
    refine sa_congr fun j => ?_
    by_cases q : j = k
    · subst q; rw [if_pos rfl, if_neg (show ¬ j < j by omega), if_pos (show j < j + 1 by omega)]; rfl
    · rw [if_neg q]
      by_cases q2 : j < k
      · rw [if_pos q2, if_pos (by omega)]
      · rw [if_neg q2, if_neg (by omega)]
  obtain ⟨x, hx⟩ : ∃ x : Nat → Int, x = fun j => if j < k then clr (σ 33 j) c else σ 33 j := ⟨_, rfl⟩
  have hk2 : (k : Int) = 400 * σ 30 1 := by omega
  have hx2 : ∀ j : Nat, x j = if (j : Int) < 400 * σ 30 1 then clr (σ 33 j) c else σ 33 j := fun j => by
    rw [hx]
    by_cases q : j < k
    · rw [if_pos (show (j : Int) < 400 * σ 30 1 by omega)]; exact if_pos q
    · rw [if_neg (show ¬ (j : Int) < 400 * σ 30 1 by omega)]; exact if_neg q
  have hxf : ∀ i : Nat, i < n → x (σ 34 i).toNat = clr (σ 33 (σ 34 i).toNat) c := fun i hi => by
    have := hf i hi
    rw [hx2, if_pos (by omega)]
  have hxo : bitsOK x := fun j hj => by
    rw [hx2]
    by_cases q : (j : Int) < 400 * σ 30 1
    · rw [if_pos q]; exact clr_ok (hl j hj) hc
    · rw [if_neg q]; exact hl j hj
  rw [← hx]
  clear hx
  show zW _ _ [30, (c : Int), a, m, a] (sa σ 33 x) _ _ _
  have e0 : ho_oadd a m = a + m := wE (by omega) (by omega)
  refine zW_rule (fun v σ' z => ∃ (p : Nat) (L : Nat → Int), a ≤ p ∧ (p : Int) ≤ a + m ∧ v = [30, (c : Int), a, m, (p : Int)] ∧ z = (a + m).toNat - p ∧ σ' = sa σ 33 L ∧ bitsOK L ∧ (∀ i : Nat, a ≤ i → i < p → L (σ 34 i).toNat = orb (x (σ 34 i).toNat) c) ∧ (∀ k : Nat, (∀ i : Nat, a ≤ i → i < p → (σ 34 i).toNat ≠ k) → L k = x k)) _ ⟨a.toNat, x, by omega, by omega, by rw [show ((a.toNat : Nat) : Int) = a by omega], rfl, rfl, hxo, fun i hi hi2 => by omega, fun k _ => rfl⟩ ?_
  rintro v σ' z ⟨p, L, hp0, hp, rfl, rfl, rfl, hLo, hL1, hL2⟩ KK KE hKK hKE
  simp only [u_eC, u_eV, u_eF, u_eR, u_eI, u_eL, u_eB, u_eD, u_eM, u_eU, u_aN, u_aC, u_eK, u_eT, u_cLt, u_cLe, u_cGt, u_cGe, u_cEq, u_cNe, u_cAnd, u_cOr, u_cNot, u_zN, u_zS, u_zD, u_zL, u_zI, u_zB, u_zP, u_zF, u_zA, u_zU, u_zC, u_zR, u_zRZ, u_zRC, u_zRV, u_zT, u_zE, u_zK, u_zY, ho_nid, List.getD_cons_zero, List.getD_cons_succ, List.set_cons_zero, List.set_cons_succ, List.cons_append, List.nil_append, List.take_succ_cons, List.take_zero, Int.reduceToNat, Int.toNat_natCast, nN_0, nN_1, nN_2, nN_3, nN_4, nN_5, nN_6, nN_7, nN_8, nN_9, nN_10, nN_11, nN_12, nN_13, nN_14, nN_15, nN_16, nN_17, nN_18, nN_19, nN_20, nN_21, nN_22, nN_23, nN_24, nN_25, nN_26, nN_27, nN_28, nN_29, nN_30, nN_31, nN_32, nN_33, nN_34, nN_35, nN_36, nN_37, nN_38, nN_39, nN_40, nN_41, nN_42, nN_43, nN_44, nN_45, nN_46, nN_47, nN_48, nN_49, nN_50, nN_51, nN_52, nN_53, nN_54, nR_0_0, nR_0_1, nR_0_2, nR_0_3, nR_0_4, nR_0_5, nR_0_6, nR_0_7, nR_0_8, nR_0_9, nR_0_10, nR_1_0, nR_1_1, nR_1_2, nR_1_3, nR_1_4, nR_2_0, nR_2_1, nR_2_2, nR_2_3, nR_2_4, nR_3_0, nR_3_1, nR_4_2, nR_5_2, nR_6_0, nR_6_1, nR_6_2, nR_7_0, nR_30_2, nR_30_3, nR_30_4, nR_30_6, nR_30_7, nR_30_9, nR_30_10, nR_30_11, nR_30_12, nR_30_13, nR_30_14, nR_30_15, nR_30_16, nR_30_18, nR_30_19, nR_30_20, nR_30_21, nR_30_22, nR_30_23, nR_30_24, nR_30_28, nR_30_29, nR_30_31, saF, saE, ho_upF, ho_upE, ne_eq, not_false_eq_true, Nat.reduceEqDiff]
  simp only [mR_30_2, mR_30_3, mR_30_4, mR_30_6, mR_30_7, mR_30_9, mR_30_10, mR_30_11, mR_30_12, mR_30_13, mR_30_14, mR_30_15, mR_30_16, mR_30_18, mR_30_19, mR_30_20, mR_30_21, mR_30_22, mR_30_23, mR_30_24, mR_30_28, mR_30_29, mR_30_31, mR_0_9, mR_7_0, nN_25, nN_26, nN_27, nN_28, nN_29, nN_30, nN_31, nN_32, nN_33, nN_34, nN_35, nN_36, nN_37, nN_38, nN_39, nN_40, nN_41, nN_42, nN_43, nN_44, nN_45, nN_46, nN_47, nN_48, nN_49, nN_50, nN_51, nN_52, nN_53, nN_54, Int.toNat_natCast, saF, saE, ho_upF, ho_upE, ne_eq, not_false_eq_true, Nat.reduceEqDiff]
  rw [e0]
  clear e0
  refine ⟨fun c1 => ?_, fun c1 => hKE _ ?_⟩
  · have hv := hf p (by omega)
    have e2 : ho_w ((p : Int) + 1) = ((p + 1 : Nat) : Int) := by rw [wE (by omega) (by omega)]; simp
    rw [e2]
    clear e2
    have old : L (σ 34 p).toNat = x (σ 34 p).toNat := hL2 _ (fun i hi hi2 q => by have := hinj i p (by omega) (by omega) q; omega)
    rw [old]
    refine ⟨by omega, by omega, hKK _ _ ((a + m).toNat - (p + 1)) (by omega) ⟨p + 1, fun j => if j = (σ 34 p).toNat then orb (x (σ 34 p).toNat) c else L j, by omega, by omega, rfl, rfl, ?_, fun j hj => ?_, fun i hi hi2 => ?_, fun j hj => ?_⟩⟩
    · rw [sa_up]; rfl
    · dsimp only
      by_cases q : j = (σ 34 p).toNat
      · rw [if_pos q]; exact orb_ok (hxo _ (by omega)) hc
      · rw [if_neg q]; exact hLo j hj
    · dsimp only
      by_cases q : i = p
      · subst q; rw [if_pos rfl]
      · rw [if_neg (fun z => q (hinj i p (by omega) (by omega) z))]; exact hL1 i hi (by omega)
    · dsimp only
      rw [if_neg (fun z => hj p (by omega) (by omega) z.symm)]
      exact hL2 j (fun i hi hi2 => hj i hi (by omega))
  · show mX7_findsTime [30, (c : Int)] (sa σ 33 L) _ _
    have hpm : (p : Int) = a + m := by omega
    refine sp_findsTime (n := n) hc hn h3 (fun i hi => ?_) hLo (fun s l hs => ?_)
    · show 0 ≤ σ 34 i ∧ σ 34 i < 4800
      have := hf i hi; omega
    · exact h L s l (fun i hi hi2 => by rw [hL1 i hi (by omega), hxf i (by omega)]) (fun k hk => by rw [hL2 k (fun i hi hi2 => hk i hi (by omega)), hx2]) hs
