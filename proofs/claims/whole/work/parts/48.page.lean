-- what is written out: both ways by one list of units
def AR (f : Nat → Int) (L : List Int) : Prop := ∀ i u, L[i]? = some u → f i = ho_nc (ho_oi2c u)
theorem AR_nil {f : Nat → Int} : AR f [] := fun i u h => by simp at h
theorem AR_app {f f' : Nat → Int} {L : List Int} {u : Int} (h : AR f L) (h1 : f' L.length = ho_nc (ho_oi2c u)) (h2 : ∀ i, i < L.length → f' i = f i) : AR f' (L ++ [u]) := by
  intro i w hw
  rcases Nat.lt_or_ge i L.length with c | c
  · rw [List.getElem?_append_left c] at hw
    rw [h2 i c]; exact h i w hw
  · rw [List.getElem?_append_right c] at hw
    by_cases z : i - L.length = 0
    · rw [z] at hw
      have q : i = L.length := by omega
      simp at hw
      subst hw
      rw [q]; exact h1
    · obtain ⟨y, hy⟩ : ∃ y, i - L.length = y + 1 := ⟨i - L.length - 1, by omega⟩
      rw [hy] at hw
      simp at hw
def un (s : Int) : List Int := if s < 65536 then [s] else [55296 + (s - 65536) / 1024, 56320 + s % 1024]
theorem un_len (s : Int) : (un s).length ≤ 2 := by unfold un; split <;> simp
def s10 (k : Nat) : Int := if k = 0 then 1000 else if k = 1 then 100 else if k = 2 then 10 else if k = 3 then 1 else 0
def dgk (v : Int) : Nat → List Int
  | 0 => []
  | k + 1 => if s10 k ≤ v ∨ k = 3 then dgk v k ++ [48 + v / s10 k % 10] else dgk v k
def dg (v : Int) : List Int := dgk v 4
theorem dgk_y {v : Int} {k : Nat} (h : s10 k ≤ v ∨ k = 3) : dgk v (k + 1) = dgk v k ++ [48 + v / s10 k % 10] := if_pos h
theorem dgk_n {v : Int} {k : Nat} (h : ¬ (s10 k ≤ v ∨ k = 3)) : dgk v (k + 1) = dgk v k := if_neg h
theorem s10_0 : s10 0 = 1000 := rfl
theorem s10_1 : s10 1 = 100 := rfl
theorem s10_2 : s10 2 = 10 := rfl
theorem s10_3 : s10 3 = 1 := rfl
theorem s10_4 : s10 4 = 0 := rfl
theorem dgk_len (v : Int) (k : Nat) : (dgk v k).length ≤ k := by
  induction k with
  | zero => exact Nat.le_refl _
  | succ k ih =>
    by_cases h : s10 k ≤ v ∨ k = 3
    · rw [dgk_y h, List.length_append]; show _ + 1 ≤ _; omega
    · rw [dgk_n h]; omega
theorem dgk_small {v : Int} {k : Nat} (hk : k ≤ 3) (h : v < 10 * s10 k) : dgk v k = [] := by
  have q : k = 0 ∨ k = 1 ∨ k = 2 ∨ k = 3 := by omega
  rcases q with rfl | rfl | rfl | rfl
  · rfl
  · rw [s10_1] at h
    rw [dgk_n (by rw [s10_0]; omega)]; rfl
  · rw [s10_2] at h
    rw [dgk_n (by rw [s10_1]; omega), dgk_n (by rw [s10_0]; omega)]; rfl
  · rw [s10_3] at h
    rw [dgk_n (by rw [s10_2]; omega), dgk_n (by rw [s10_1]; omega), dgk_n (by rw [s10_0]; omega)]; rfl
theorem dg_len (v : Int) : (dg v).length ≤ 4 := dgk_len v 4
theorem dg_len1 {v : Int} (h : v < 10) : (dg v).length = 1 := by
  unfold dg
  rw [dgk_y (Or.inr rfl), dgk_small (k := 3) (by omega) (by rw [s10_3]; omega)]; rfl
theorem dg_len2 {v : Int} (h : v < 100) : (dg v).length ≤ 2 := by
  unfold dg
  rw [dgk_y (Or.inr rfl), List.length_append]
  show _ + 1 ≤ 2
  by_cases c : s10 2 ≤ v ∨ 2 = 3
  · rw [dgk_y c, dgk_small (k := 2) (by omega) (by rw [s10_2]; omega)]; exact Nat.le_refl _
  · rw [dgk_n c, dgk_small (k := 2) (by omega) (by rw [s10_2]; omega)]; exact Nat.le_succ _
def tw (v : Int) : List Int := [48 + v / 10, 48 + v % 10]
def tmL (v : Int) : List Int := dg (v / 1500) ++ ([58] ++ (tw (v / 25 % 60) ++ ([58] ++ tw (v % 25))))
theorem tmL_len {v : Int} (h0 : 0 ≤ v) (h : v ≤ 4800) : (tmL v).length = 7 := by
  unfold tmL tw
  simp only [List.length_append, List.length_cons, List.length_nil]
  rw [dg_len1 (by omega)]
def segU (T : Nat → Int) (a : Nat) : Nat → List Int
  | 0 => []
  | k + 1 => segU T a k ++ un (T (a + k))
theorem segU_len (T : Nat → Int) (a k : Nat) : (segU T a k).length ≤ 2 * k := by
  induction k with
  | zero => exact Nat.le_refl _
  | succ k ih => have := un_len (T (a + k)); unfold segU; rw [List.length_append]; omega
def rowU (T : Nat → Int) (p : Nat × Nat) : List Int := segU T p.1 (p.2 - p.1)
def rwsU (T : Nat → Int) (sep : Int) (l : List (Nat × Nat)) : Nat → List Int
  | 0 => []
  | k + 1 => rwsU T sep l k ++ ((if 0 < k then [sep] else []) ++ rowU T (l.getD k (0, 0)))
def tot (l : List (Nat × Nat)) : Nat := l.foldl (fun s p => s + (p.2 - p.1 + 1)) 0
theorem tot_app (l m : List (Nat × Nat)) : tot (l ++ m) = tot l + tot m := by
  have g : ∀ (m : List (Nat × Nat)) (s : Nat), m.foldl (fun s p => s + (p.2 - p.1 + 1)) s = s + m.foldl (fun s p => s + (p.2 - p.1 + 1)) 0 := by
    intro m
    induction m with
    | nil => intro s; simp
    | cons p m ih =>
      intro s
      show m.foldl _ (s + (p.2 - p.1 + 1)) = s + m.foldl _ (0 + (p.2 - p.1 + 1))
      rw [ih, ih (0 + _)]; omega
  unfold tot
  rw [List.foldl_append, g]
theorem tot_prt {T : Nat → Int} {W : Int} {a b : Nat} (h : a ≤ b) : tot (prt T W a b) = b - a + 1 := by
  unfold prt
  have rg := spc_rg (T := T) (W := W) (a := a) (b := b)
  split
  · rename_i c
    have c2 := c.2
    show 0 + ((spc T W a b).toNat - a + 1) + (b - ((spc T W a b).toNat + 1) + 1) = _
    omega
  · show 0 + (b - a + 1) = _
    omega
theorem tot_acc {T : Nat → Int} {W : Int} (k : Nat) : tot (acc T W k).2 = (acc T W k).1 := by
  induction k with
  | zero => rfl
  | succ k ih =>
    by_cases c : T k = 10
    · rw [acc_y c]
      dsimp only
      have r1 := acc_rg (T := T) (W := W) k
      rw [tot_app, tot_prt r1.1, ih]; omega
    · rw [acc_n c]; exact ih
theorem tot_rws {T : Nat → Int} {W : Int} {n : Nat} : tot (rws T W n) ≤ n + 1 := by
  unfold rws
  split
  · exact Nat.zero_le _
  · have r1 := acc_rg (T := T) (W := W) n
    rw [tot_app, tot_prt r1.1, tot_acc]; omega
theorem rwsU_len (T : Nat → Int) (sep : Int) (l : List (Nat × Nat)) (k : Nat) (hk : k ≤ l.length) : (rwsU T sep l k).length ≤ 2 * tot (l.take k) := by
  induction k with
  | zero => exact Nat.le_refl _
  | succ k ih =>
    have i9 := ih (by omega)
    have hg : l[k]? = some l[k] := List.getElem?_eq_getElem (by omega)
    have tk : l.take (k + 1) = l.take k ++ [l[k]] := by rw [List.take_succ, hg]; rfl
    have gd : l.getD k (0, 0) = l[k] := by rw [List.getD_eq_getElem?_getD, hg]; rfl
    rw [tk, tot_app]
    unfold rwsU
    rw [gd, List.length_append, List.length_append]
    have s9 := segU_len T (l[k]).1 ((l[k]).2 - (l[k]).1)
    have t9 : tot [l[k]] = (l[k]).2 - (l[k]).1 + 1 := by show 0 + _ = _; omega
    have p9 : (if 0 < k then [sep] else []).length ≤ 1 := by split <;> simp
    unfold rowU
    omega
/-- what is written of one caption -/
def capU (fmt : Bool) (num st ln lk : Int) (T : Nat → Int) (l : List (Nat × Nat)) : List Int :=
  if fmt = false then dg num ++ ([10] ++ (tmL st ++ ([32] ++ ([62] ++ ([32] ++ (tmL (st + ln) ++ ([10] ++ ((if lk = 2 then [9834, 32] else []) ++ (rwsU T 10 l l.length ++ ((if lk = 2 then [32, 9834] else []) ++ ([10] ++ [10])))))))))))
  else [123] ++ (dg st ++ ([125] ++ ([123] ++ (dg (st + ln) ++ ([125] ++ ((if lk = 2 then [47] else if lk = 3 then [94] else []) ++ (rwsU T 124 l l.length ++ [10])))))))
theorem capU_len {fmt : Bool} {num st ln lk : Int} {T : Nat → Int} {W : Int} {n : Nat} (hn : n ≤ 60) (h1 : num < 100) (h2 : 0 ≤ st) (h3 : 0 ≤ ln) (h4 : st + ln ≤ 4800) : (capU fmt num st ln lk T (rws T W n)).length ≤ 150 := by
  have r10 := rwsU_len T 10 (rws T W n) _ (Nat.le_refl _)
  have r124 := rwsU_len T 124 (rws T W n) _ (Nat.le_refl _)
  rw [List.take_length] at r10 r124
  have t9 := tot_rws (T := T) (W := W) (n := n)
  have d1 := dg_len2 h1
  have d2 := dg_len st
  have d3 := dg_len (st + ln)
  have t1 := tmL_len h2 (by omega)
  have t2 := tmL_len (v := st + ln) (by omega) h4
  have q1 : (if lk = 2 then [9834, 32] else ([] : List Int)).length ≤ 2 := by split <;> simp
  have q2 : (if lk = 2 then [32, 9834] else ([] : List Int)).length ≤ 2 := by split <;> simp
  have q3 : (if lk = 2 then [47] else if lk = 3 then [94] else ([] : List Int)).length ≤ 1 := by
    split
    · simp
    · split <;> simp
  unfold capU
  split
  · simp only [List.length_append, List.length_cons, List.length_nil]
    omega
  · simp only [List.length_append, List.length_cons, List.length_nil]
    omega
/-- all that is written: by the first k of the order -/
noncomputable def allU (fmt : Bool) (od : Nat → Int) (tt : Nat → TV) (st ln lk : Nat → Int) (W : Int) (t : Nat) : Nat → Int × List Int
  | 0 => (0, [])
  | k + 1 => if od k ≠ -1 ∧ 0 < (tt (3 * (od k).toNat + t)).1 then ((allU fmt od tt st ln lk W t k).1 + 1, (allU fmt od tt st ln lk W t k).2 ++ capU fmt ((allU fmt od tt st ln lk W t k).1 + 1) (st (od k).toNat) (ln (od k).toNat) (lk (od k).toNat) (tt (3 * (od k).toNat + t)).2 (rws (tt (3 * (od k).toNat + t)).2 W (tt (3 * (od k).toNat + t)).1.toNat)) else allU fmt od tt st ln lk W t k
theorem allU_y {fmt : Bool} {od : Nat → Int} {tt : Nat → TV} {st ln lk : Nat → Int} {W : Int} {t k c n : Nat} {T : Nat → Int} (h1 : od k = (c : Int)) (h2 : tt (3 * c + t) = ((n : Int), T)) (h3 : 0 < n) : allU fmt od tt st ln lk W t (k + 1) = ((allU fmt od tt st ln lk W t k).1 + 1, (allU fmt od tt st ln lk W t k).2 ++ capU fmt ((allU fmt od tt st ln lk W t k).1 + 1) (st c) (ln c) (lk c) T (rws T W n)) := by
  show (if od k ≠ -1 ∧ 0 < (tt (3 * (od k).toNat + t)).1 then _ else _) = _
  rw [h1, Int.toNat_natCast, h2, if_pos ⟨by omega, by show 0 < (n : Int); omega⟩]
  rfl
theorem allU_n {fmt : Bool} {od : Nat → Int} {tt : Nat → TV} {st ln lk : Nat → Int} {W : Int} {t k : Nat} (h : od k = -1 ∨ ∃ c : Nat, od k = (c : Int) ∧ (tt (3 * c + t)).1 = 0) : allU fmt od tt st ln lk W t (k + 1) = allU fmt od tt st ln lk W t k := by
  refine if_neg (fun z => ?_)
  rcases h with h | ⟨c, h1, h2⟩
  · exact z.1 h
  · have := z.2
    rw [h1, Int.toNat_natCast, h2] at this
    omega
-- the class's page
def PG (σ : ho_S) (L : List Int) : Prop := σ 7 1 = (L.length : Int) ∧ AR (σ 25) L
theorem sp_writeUnit {u : Int} {L : List Int} {σ : ho_S} {Q : ho_K} {X : ho_X} (hL : PG σ L) (hc : L.length < 2400) (h : ∀ σ', sm pPg σ σ' → PG σ' (L ++ [u]) → Q 0 σ') : mX3_writeUnit [7, u] σ Q X := by
  obtain ⟨h1, h2⟩ := hL
  simp only [mX3_writeUnit, fX3_writeUnit, u_eC, u_eV, u_eF, u_eR, u_eI, u_eL, u_eB, u_eD, u_eM, u_eU, u_aN, u_aC, u_eK, u_eT, u_cLt, u_cLe, u_cGt, u_cGe, u_cEq, u_cNe, u_cAnd, u_cOr, u_cNot, u_zN, u_zS, u_zD, u_zL, u_zI, u_zB, u_zP, u_zF, u_zA, u_zU, u_zC, u_zR, u_zRZ, u_zRC, u_zRV, u_zT, u_zE, u_zK, u_zY, ho_nid, List.getD_cons_zero, List.getD_cons_succ, List.set_cons_zero, List.set_cons_succ, List.cons_append, List.nil_append, List.take_succ_cons, List.take_zero, Int.reduceToNat, Int.toNat_natCast, nN_0, nN_1, nN_2, nN_3, nN_4, nN_5, nN_6, nN_7, nN_8, nN_9, nN_10, nN_11, nN_12, nN_13, nN_14, nN_15, nN_16, nN_17, nN_18, nN_19, nN_20, nN_21, nN_22, nN_23, nN_24, nN_25, nN_26, nN_27, nN_28, nN_29, nN_30, nN_31, nN_32, nN_33, nN_34, nN_35, nN_36, nN_37, nN_38, nN_39, nN_40, nN_41, nN_42, nN_43, nN_44, nN_45, nN_46, nN_47, nN_48, nN_49, nN_50, nN_51, nN_52, nN_53, nN_54, nR_0_0, nR_0_1, nR_0_2, nR_0_3, nR_0_4, nR_0_5, nR_0_6, nR_0_7, nR_0_8, nR_0_9, nR_0_10, nR_1_0, nR_1_1, nR_1_2, nR_1_3, nR_1_4, nR_2_0, nR_2_1, nR_2_2, nR_2_3, nR_2_4, nR_3_0, nR_3_1, nR_4_2, nR_5_2, nR_6_0, nR_6_1, nR_6_2, nR_7_0, nR_30_2, nR_30_3, nR_30_4, nR_30_6, nR_30_7, nR_30_9, nR_30_10, nR_30_11, nR_30_12, nR_30_13, nR_30_14, nR_30_15, nR_30_16, nR_30_18, nR_30_19, nR_30_20, nR_30_21, nR_30_22, nR_30_23, nR_30_24, nR_30_28, nR_30_29, nR_30_31]
  simp only [mR_30_2, mR_30_3, mR_30_4, mR_30_6, mR_30_7, mR_30_9, mR_30_10, mR_30_11, mR_30_12, mR_30_13, mR_30_14, mR_30_15, mR_30_16, mR_30_18, mR_30_19, mR_30_20, mR_30_21, mR_30_22, mR_30_23, mR_30_24, mR_30_28, mR_30_29, mR_30_31, mR_0_9, mR_7_0, nN_25, nN_26, nN_27, nN_28, nN_29, nN_30, nN_31, nN_32, nN_33, nN_34, nN_35, nN_36, nN_37, nN_38, nN_39, nN_40, nN_41, nN_42, nN_43, nN_44, nN_45, nN_46, nN_47, nN_48, nN_49, nN_50, nN_51, nN_52, nN_53, nN_54, Int.toNat_natCast, saF, saE, ho_upF, ho_upE, ne_eq, not_false_eq_true, Nat.reduceEqDiff, h1, oinc (show L.length < 100000 by omega)]
  refine ⟨fun _ => ⟨fun c1 => ⟨by omega, h _ (sm_up (sm_up sm_rf rfl) rfl) ⟨?_, AR_app h2 ?_ (fun i hi => ?_)⟩⟩, fun c1 => absurd c1 (by omega)⟩, fun c0 => absurd c0 (by omega)⟩
  · rw [ho_upE, List.length_append]; rfl
  · show ho_up σ 25 L.length _ 25 L.length = _
    exact ho_upE
  · show ho_up σ 25 L.length _ 25 i = _
    exact ho_upJ (by omega)
theorem un_shr {x : Nat} (h1 : 65536 ≤ x) (h2 : x ≤ 131071) : ho_oadd 55296 (ho_oshr (ho_osub (x : Int) 65536) 10) = 55296 + ((x : Int) - 65536) / 1024 := by
  have a : ho_osub (x : Int) 65536 = ((x - 65536 : Nat) : Int) := by rw [wsu (by omega) (by omega)]; omega
  have b : ho_oshr ((x - 65536 : Nat) : Int) 10 = (((x - 65536) >>> 10 : Nat) : Int) := shr_nat (c := 10) (by omega) (by omega)
  rw [a, b, Nat.shiftRight_eq_div_pow]
  clear a b
  have e : 2 ^ 10 = 1024 := rfl
  rw [e, wad (by omega) (by omega)]
  omega
theorem un_and {x : Nat} (h2 : x ≤ 131071) : ho_oadd 56320 (ho_oand (x : Int) 1023) = 56320 + (x : Int) % 1024 := by
  have b : ho_oand (x : Int) 1023 = ((x &&& 1023 : Nat) : Int) := and_nat (b := 1023) (by omega) (by decide)
  have e : x &&& 1023 = x % 1024 := Nat.and_two_pow_sub_one_eq_mod x 10
  rw [b, e]
  clear b
  rw [wad (by omega) (by omega)]
  omega
theorem sp_write {x : Nat} {L : List Int} {σ : ho_S} {Q : ho_K} {X : ho_X} (hx : x ≤ 131071) (hL : PG σ L) (hc : (L ++ un (x : Int)).length ≤ 2400) (h : ∀ σ', sm pPg σ σ' → PG σ' (L ++ un (x : Int)) → Q 0 σ') : mX3_write [7, (x : Int)] σ Q X := by
  rw [List.length_append] at hc
  simp only [mX3_write, fX3_write, u_eC, u_eV, u_eF, u_eR, u_eI, u_eL, u_eB, u_eD, u_eM, u_eU, u_aN, u_aC, u_eK, u_eT, u_cLt, u_cLe, u_cGt, u_cGe, u_cEq, u_cNe, u_cAnd, u_cOr, u_cNot, u_zN, u_zS, u_zD, u_zL, u_zI, u_zB, u_zP, u_zF, u_zA, u_zU, u_zC, u_zR, u_zRZ, u_zRC, u_zRV, u_zT, u_zE, u_zK, u_zY, ho_nid, List.getD_cons_zero, List.getD_cons_succ, List.set_cons_zero, List.set_cons_succ, List.cons_append, List.nil_append, List.take_succ_cons, List.take_zero, Int.reduceToNat, Int.toNat_natCast, nN_0, nN_1, nN_2, nN_3, nN_4, nN_5, nN_6, nN_7, nN_8, nN_9, nN_10, nN_11, nN_12, nN_13, nN_14, nN_15, nN_16, nN_17, nN_18, nN_19, nN_20, nN_21, nN_22, nN_23, nN_24, nN_25, nN_26, nN_27, nN_28, nN_29, nN_30, nN_31, nN_32, nN_33, nN_34, nN_35, nN_36, nN_37, nN_38, nN_39, nN_40, nN_41, nN_42, nN_43, nN_44, nN_45, nN_46, nN_47, nN_48, nN_49, nN_50, nN_51, nN_52, nN_53, nN_54, nR_0_0, nR_0_1, nR_0_2, nR_0_3, nR_0_4, nR_0_5, nR_0_6, nR_0_7, nR_0_8, nR_0_9, nR_0_10, nR_1_0, nR_1_1, nR_1_2, nR_1_3, nR_1_4, nR_2_0, nR_2_1, nR_2_2, nR_2_3, nR_2_4, nR_3_0, nR_3_1, nR_4_2, nR_5_2, nR_6_0, nR_6_1, nR_6_2, nR_7_0, nR_30_2, nR_30_3, nR_30_4, nR_30_6, nR_30_7, nR_30_9, nR_30_10, nR_30_11, nR_30_12, nR_30_13, nR_30_14, nR_30_15, nR_30_16, nR_30_18, nR_30_19, nR_30_20, nR_30_21, nR_30_22, nR_30_23, nR_30_24, nR_30_28, nR_30_29, nR_30_31]
  refine ⟨fun c1 => ?_, fun c1 => ?_⟩
  · have e : un (x : Int) = [(x : Int)] := if_pos c1
    rw [e] at h hc
    exact sp_writeUnit hL (by simp at hc; omega) h
  · have e : un (x : Int) = [55296 + ((x : Int) - 65536) / 1024, 56320 + (x : Int) % 1024] := if_neg (by omega)
    rw [e] at h hc
    have hc2 : L.length + 2 ≤ 2400 := hc
    rw [un_shr (by omega) hx, un_and hx]
    refine sp_writeUnit hL (by omega) (fun σ1 s1 L1 => ?_)
    refine sp_writeUnit L1 (by rw [List.length_append]; simp; omega) (fun σ2 s2 L2 => h σ2 (sm_tr s1 s2) ?_)
    rw [List.append_assoc] at L2
    exact L2
theorem sp_writeC {x : Int} {L : List Int} {σ : ho_S} {Q : ho_K} {X : ho_X} (h0 : 0 ≤ x) (hx : x < 65536) (hL : PG σ L) (hc : L.length < 2400) (h : ∀ σ', sm pPg σ σ' → PG σ' (L ++ [x]) → Q 0 σ') : mX3_write [7, x] σ Q X := by
  obtain ⟨y, rfl⟩ : ∃ y : Nat, x = (y : Int) := ⟨x.toNat, by omega⟩
  have e : un (y : Int) = [(y : Int)] := if_pos hx
  exact sp_write (by omega) hL (by rw [e, List.length_append]; simp; omega) (by rw [e]; exact h)
theorem td {a b : Int} (h : 0 ≤ a) : Int.tdiv a b = a / b := Int.tdiv_eq_ediv_of_nonneg h
theorem sp_writeNumber {v : Int} {L : List Int} {σ : ho_S} {Q : ho_K} {X : ho_X} (h0 : 0 ≤ v) (h9 : v ≤ 9999) (hL : PG σ L) (hc : L.length + 4 ≤ 2400) (h : ∀ σ', sm pPg σ σ' → PG σ' (L ++ dg v) → Q 0 σ') : mX3_writeNumber [7, v] σ Q X := by
  simp only [mX3_writeNumber, fX3_writeNumber, u_eC, u_eV, u_eF, u_eR, u_eI, u_eL, u_eB, u_eD, u_eM, u_eU, u_aN, u_aC, u_eK, u_eT, u_cLt, u_cLe, u_cGt, u_cGe, u_cEq, u_cNe, u_cAnd, u_cOr, u_cNot, u_zN, u_zS, u_zD, u_zL, u_zI, u_zB, u_zP, u_zF, u_zA, u_zU, u_zC, u_zR, u_zRZ, u_zRC, u_zRV, u_zT, u_zE, u_zK, u_zY, ho_nid, List.getD_cons_zero, List.getD_cons_succ, List.set_cons_zero, List.set_cons_succ, List.cons_append, List.nil_append, List.take_succ_cons, List.take_zero, Int.reduceToNat, Int.toNat_natCast, nN_0, nN_1, nN_2, nN_3, nN_4, nN_5, nN_6, nN_7, nN_8, nN_9, nN_10, nN_11, nN_12, nN_13, nN_14, nN_15, nN_16, nN_17, nN_18, nN_19, nN_20, nN_21, nN_22, nN_23, nN_24, nN_25, nN_26, nN_27, nN_28, nN_29, nN_30, nN_31, nN_32, nN_33, nN_34, nN_35, nN_36, nN_37, nN_38, nN_39, nN_40, nN_41, nN_42, nN_43, nN_44, nN_45, nN_46, nN_47, nN_48, nN_49, nN_50, nN_51, nN_52, nN_53, nN_54, nR_0_0, nR_0_1, nR_0_2, nR_0_3, nR_0_4, nR_0_5, nR_0_6, nR_0_7, nR_0_8, nR_0_9, nR_0_10, nR_1_0, nR_1_1, nR_1_2, nR_1_3, nR_1_4, nR_2_0, nR_2_1, nR_2_2, nR_2_3, nR_2_4, nR_3_0, nR_3_1, nR_4_2, nR_5_2, nR_6_0, nR_6_1, nR_6_2, nR_7_0, nR_30_2, nR_30_3, nR_30_4, nR_30_6, nR_30_7, nR_30_9, nR_30_10, nR_30_11, nR_30_12, nR_30_13, nR_30_14, nR_30_15, nR_30_16, nR_30_18, nR_30_19, nR_30_20, nR_30_21, nR_30_22, nR_30_23, nR_30_24, nR_30_28, nR_30_29, nR_30_31]
  refine zW_rule (fun w σ' m => ∃ k : Nat, (k ≤ 4) ∧ w = [7, v, s10 k] ∧ m = 4 - k ∧ sm pPg σ σ' ∧ PG σ' (L ++ dgk v k)) _ ⟨0, by omega, rfl, rfl, sm_rf, by rw [show dgk v 0 = [] from rfl, List.append_nil]; exact hL⟩ ?_
  rintro w σ' m ⟨k, hk, rfl, rfl, hs, hP⟩ KK KE hKK hKE
  have dl := dgk_len v k
  simp only [u_eC, u_eV, u_eF, u_eR, u_eI, u_eL, u_eB, u_eD, u_eM, u_eU, u_aN, u_aC, u_eK, u_eT, u_cLt, u_cLe, u_cGt, u_cGe, u_cEq, u_cNe, u_cAnd, u_cOr, u_cNot, u_zN, u_zS, u_zD, u_zL, u_zI, u_zB, u_zP, u_zF, u_zA, u_zU, u_zC, u_zR, u_zRZ, u_zRC, u_zRV, u_zT, u_zE, u_zK, u_zY, ho_nid, List.getD_cons_zero, List.getD_cons_succ, List.set_cons_zero, List.set_cons_succ, List.cons_append, List.nil_append, List.take_succ_cons, List.take_zero, Int.reduceToNat, Int.toNat_natCast, nN_0, nN_1, nN_2, nN_3, nN_4, nN_5, nN_6, nN_7, nN_8, nN_9, nN_10, nN_11, nN_12, nN_13, nN_14, nN_15, nN_16, nN_17, nN_18, nN_19, nN_20, nN_21, nN_22, nN_23, nN_24, nN_25, nN_26, nN_27, nN_28, nN_29, nN_30, nN_31, nN_32, nN_33, nN_34, nN_35, nN_36, nN_37, nN_38, nN_39, nN_40, nN_41, nN_42, nN_43, nN_44, nN_45, nN_46, nN_47, nN_48, nN_49, nN_50, nN_51, nN_52, nN_53, nN_54, nR_0_0, nR_0_1, nR_0_2, nR_0_3, nR_0_4, nR_0_5, nR_0_6, nR_0_7, nR_0_8, nR_0_9, nR_0_10, nR_1_0, nR_1_1, nR_1_2, nR_1_3, nR_1_4, nR_2_0, nR_2_1, nR_2_2, nR_2_3, nR_2_4, nR_3_0, nR_3_1, nR_4_2, nR_5_2, nR_6_0, nR_6_1, nR_6_2, nR_7_0, nR_30_2, nR_30_3, nR_30_4, nR_30_6, nR_30_7, nR_30_9, nR_30_10, nR_30_11, nR_30_12, nR_30_13, nR_30_14, nR_30_15, nR_30_16, nR_30_18, nR_30_19, nR_30_20, nR_30_21, nR_30_22, nR_30_23, nR_30_24, nR_30_28, nR_30_29, nR_30_31]
  have put : ∀ (u : Int) (y : Int), k < 4 → (s10 k ≤ v ∨ k = 3) → u = 48 + v / s10 k % 10 → y = s10 (k + 1) → mX3_writeUnit [7, u] σ' (fun _ σ => (10 : Int) ≠ 0 ∧ KK [7, v, y] σ) X := by
    intro u y hk4 hy e1 e2
    refine sp_writeUnit hP (by rw [List.length_append]; omega) (fun σ2 s2 L2 => ⟨by omega, ?_⟩)
    rw [e2]
    refine hKK _ _ (4 - (k + 1)) (by omega) ⟨k + 1, by omega, rfl, rfl, sm_tr hs s2, ?_⟩
    rw [dgk_y hy, ← List.append_assoc, ← e1]
    exact L2
  have skip : ∀ (y : Int), k < 4 → ¬ (s10 k ≤ v ∨ k = 3) → y = s10 (k + 1) → (10 : Int) ≠ 0 ∧ KK [7, v, y] σ' := by
    intro y hk4 hy e2
    refine ⟨by omega, ?_⟩
    rw [e2]
    refine hKK _ _ (4 - (k + 1)) (by omega) ⟨k + 1, by omega, rfl, rfl, hs, ?_⟩
    rw [dgk_n hy]; exact hP
  refine ⟨fun c1 => ?_, fun c1 => hKE _ ?_⟩
  · have kk : k = 0 ∨ k = 1 ∨ k = 2 ∨ k = 3 := by
      have : k ≠ 4 := by rintro rfl; rw [s10_4] at c1; omega
      omega
    have dv : ∀ y : Int, y = s10 k → (0 < y) → ho_oadd 48 (ho_w (Int.tmod (ho_w (Int.tdiv v y)) 10)) = 48 + v / s10 k % 10 := by
      intro y hy hy0
      rw [← hy]
      have a : 0 ≤ v / y := Int.ediv_nonneg h0 (by omega)
      have b : v / y ≤ v := Int.ediv_le_self _ h0
      rw [td h0, wE (x := v / y) (by omega) (by omega), tmod_emod a, wE (x := v / y % 10) (by omega) (by omega), wad (by omega) (by omega)]
    rcases kk with rfl | rfl | rfl | rfl
    · simp only [s10_0] at c1 ⊢ dv
      refine ⟨fun c2 => ⟨by omega, by omega, put _ _ (by omega) (Or.inl c2) (dv 1000 rfl (by omega)) (by decide)⟩, fun c2 => ⟨fun c3 => absurd c3 (by omega), fun _ => skip _ (by omega) (fun z => by rw [s10_0] at z; omega) (by decide)⟩⟩
    · simp only [s10_1] at c1 ⊢ dv
      refine ⟨fun c2 => ⟨by omega, by omega, put _ _ (by omega) (Or.inl c2) (dv 100 rfl (by omega)) (by decide)⟩, fun c2 => ⟨fun c3 => absurd c3 (by omega), fun _ => skip _ (by omega) (fun z => by rw [s10_1] at z; omega) (by decide)⟩⟩
    · simp only [s10_2] at c1 ⊢ dv
      refine ⟨fun c2 => ⟨by omega, by omega, put _ _ (by omega) (Or.inl c2) (dv 10 rfl (by omega)) (by decide)⟩, fun c2 => ⟨fun c3 => absurd c3 (by omega), fun _ => skip _ (by omega) (fun z => by rw [s10_2] at z; omega) (by decide)⟩⟩
    · simp only [s10_3] at c1 ⊢ dv
      refine ⟨fun c2 => ⟨by omega, by omega, put _ _ (by omega) (Or.inr rfl) (dv 1 rfl (by omega)) (by decide)⟩, fun c2 => ⟨fun c3 => ⟨by omega, by omega, put _ _ (by omega) (Or.inr rfl) (dv 1 rfl (by omega)) (by decide)⟩, fun c3 => absurd rfl c3⟩⟩
  · have kk : k = 4 := by
      have : k = 0 ∨ k = 1 ∨ k = 2 ∨ k = 3 ∨ k = 4 := by omega
      rcases this with rfl | rfl | rfl | rfl | rfl
      · rw [s10_0] at c1; omega
      · rw [s10_1] at c1; omega
      · rw [s10_2] at c1; omega
      · rw [s10_3] at c1; omega
      · rfl
    subst kk
    exact h σ' hs hP
theorem sp_writeTwo {v : Int} {L : List Int} {σ : ho_S} {Q : ho_K} {X : ho_X} (h0 : 0 ≤ v) (h9 : v ≤ 99) (hL : PG σ L) (hc : L.length + 2 ≤ 2400) (h : ∀ σ', sm pPg σ σ' → PG σ' (L ++ tw v) → Q 0 σ') : mX3_writeTwoDigits [7, v] σ Q X := by
  simp only [mX3_writeTwoDigits, fX3_writeTwoDigits, u_eC, u_eV, u_eF, u_eR, u_eI, u_eL, u_eB, u_eD, u_eM, u_eU, u_aN, u_aC, u_eK, u_eT, u_cLt, u_cLe, u_cGt, u_cGe, u_cEq, u_cNe, u_cAnd, u_cOr, u_cNot, u_zN, u_zS, u_zD, u_zL, u_zI, u_zB, u_zP, u_zF, u_zA, u_zU, u_zC, u_zR, u_zRZ, u_zRC, u_zRV, u_zT, u_zE, u_zK, u_zY, ho_nid, List.getD_cons_zero, List.getD_cons_succ, List.set_cons_zero, List.set_cons_succ, List.cons_append, List.nil_append, List.take_succ_cons, List.take_zero, Int.reduceToNat, Int.toNat_natCast, nN_0, nN_1, nN_2, nN_3, nN_4, nN_5, nN_6, nN_7, nN_8, nN_9, nN_10, nN_11, nN_12, nN_13, nN_14, nN_15, nN_16, nN_17, nN_18, nN_19, nN_20, nN_21, nN_22, nN_23, nN_24, nN_25, nN_26, nN_27, nN_28, nN_29, nN_30, nN_31, nN_32, nN_33, nN_34, nN_35, nN_36, nN_37, nN_38, nN_39, nN_40, nN_41, nN_42, nN_43, nN_44, nN_45, nN_46, nN_47, nN_48, nN_49, nN_50, nN_51, nN_52, nN_53, nN_54, nR_0_0, nR_0_1, nR_0_2, nR_0_3, nR_0_4, nR_0_5, nR_0_6, nR_0_7, nR_0_8, nR_0_9, nR_0_10, nR_1_0, nR_1_1, nR_1_2, nR_1_3, nR_1_4, nR_2_0, nR_2_1, nR_2_2, nR_2_3, nR_2_4, nR_3_0, nR_3_1, nR_4_2, nR_5_2, nR_6_0, nR_6_1, nR_6_2, nR_7_0, nR_30_2, nR_30_3, nR_30_4, nR_30_6, nR_30_7, nR_30_9, nR_30_10, nR_30_11, nR_30_12, nR_30_13, nR_30_14, nR_30_15, nR_30_16, nR_30_18, nR_30_19, nR_30_20, nR_30_21, nR_30_22, nR_30_23, nR_30_24, nR_30_28, nR_30_29, nR_30_31]
  rw [td h0, tmod_emod h0, wE (x := v / 10) (by omega) (by omega), wE (x := v % 10) (by omega) (by omega), wad (by omega) (by omega), wad (by omega) (by omega)]
  refine ⟨by omega, sp_writeUnit hL (by omega) (fun σ1 s1 L1 => ⟨by omega, ?_⟩)⟩
  refine sp_writeUnit L1 (by rw [List.length_append]; simp; omega) (fun σ2 s2 L2 => h σ2 (sm_tr s1 s2) ?_)
  rw [List.append_assoc] at L2
  exact L2
theorem sp_writeTime {v : Int} {L : List Int} {σ : ho_S} {Q : ho_K} {X : ho_X} (h0 : 0 ≤ v) (h9 : v ≤ 4800) (hL : PG σ L) (hc : L.length + 14 ≤ 2400) (h : ∀ σ', sm pPg σ σ' → PG σ' (L ++ tmL v) → Q 0 σ') : mX6_writeTime [0, v] σ Q X := by
  have d9 := dg_len1 (v := v / 1500) (by omega)
  simp only [mX6_writeTime, fX6_writeTime, u_eC, u_eV, u_eF, u_eR, u_eI, u_eL, u_eB, u_eD, u_eM, u_eU, u_aN, u_aC, u_eK, u_eT, u_cLt, u_cLe, u_cGt, u_cGe, u_cEq, u_cNe, u_cAnd, u_cOr, u_cNot, u_zN, u_zS, u_zD, u_zL, u_zI, u_zB, u_zP, u_zF, u_zA, u_zU, u_zC, u_zR, u_zRZ, u_zRC, u_zRV, u_zT, u_zE, u_zK, u_zY, ho_nid, List.getD_cons_zero, List.getD_cons_succ, List.set_cons_zero, List.set_cons_succ, List.cons_append, List.nil_append, List.take_succ_cons, List.take_zero, Int.reduceToNat, Int.toNat_natCast, nN_0, nN_1, nN_2, nN_3, nN_4, nN_5, nN_6, nN_7, nN_8, nN_9, nN_10, nN_11, nN_12, nN_13, nN_14, nN_15, nN_16, nN_17, nN_18, nN_19, nN_20, nN_21, nN_22, nN_23, nN_24, nN_25, nN_26, nN_27, nN_28, nN_29, nN_30, nN_31, nN_32, nN_33, nN_34, nN_35, nN_36, nN_37, nN_38, nN_39, nN_40, nN_41, nN_42, nN_43, nN_44, nN_45, nN_46, nN_47, nN_48, nN_49, nN_50, nN_51, nN_52, nN_53, nN_54, nR_0_0, nR_0_1, nR_0_2, nR_0_3, nR_0_4, nR_0_5, nR_0_6, nR_0_7, nR_0_8, nR_0_9, nR_0_10, nR_1_0, nR_1_1, nR_1_2, nR_1_3, nR_1_4, nR_2_0, nR_2_1, nR_2_2, nR_2_3, nR_2_4, nR_3_0, nR_3_1, nR_4_2, nR_5_2, nR_6_0, nR_6_1, nR_6_2, nR_7_0, nR_30_2, nR_30_3, nR_30_4, nR_30_6, nR_30_7, nR_30_9, nR_30_10, nR_30_11, nR_30_12, nR_30_13, nR_30_14, nR_30_15, nR_30_16, nR_30_18, nR_30_19, nR_30_20, nR_30_21, nR_30_22, nR_30_23, nR_30_24, nR_30_28, nR_30_29, nR_30_31]
  rw [td h0, td h0, tmod_emod h0, wE (x := v / 1500) (by omega) (by omega), wE (x := v / 25) (by omega) (by omega), tmod_emod (show 0 ≤ v / 25 by omega), wE (x := v / 25 % 60) (by omega) (by omega), wE (x := v % 25) (by omega) (by omega)]
  refine ⟨by omega, sp_writeNumber (by omega) (by omega) hL (by omega) (fun σ1 s1 L1 => ?_)⟩
  have l1 : (L ++ dg (v / 1500)).length = L.length + 1 := by rw [List.length_append, d9]
  refine sp_writeC (by omega) (by omega) L1 (by omega) (fun σ2 s2 L2 => ⟨by omega, by omega, ?_⟩)
  have l2 : (L ++ dg (v / 1500) ++ [58]).length = L.length + 2 := by rw [List.length_append, l1]; rfl
  refine sp_writeTwo (by omega) (by omega) L2 (by omega) (fun σ3 s3 L3 => ?_)
  have l3 : (L ++ dg (v / 1500) ++ [58] ++ tw (v / 25 % 60)).length = L.length + 4 := by rw [List.length_append, l2]; rfl
  refine sp_writeC (by omega) (by omega) L3 (by omega) (fun σ4 s4 L4 => ⟨by omega, ?_⟩)
  have l4 : (L ++ dg (v / 1500) ++ [58] ++ tw (v / 25 % 60) ++ [58]).length = L.length + 5 := by rw [List.length_append, l3]; rfl
  refine sp_writeTwo (by omega) (by omega) L4 (by omega) (fun σ5 s5 L5 => h σ5 (sm_tr s1 (sm_tr s2 (sm_tr s3 (sm_tr s4 s5)))) ?_)
  unfold tmL
  simp only [List.append_assoc] at L5
  exact L5
