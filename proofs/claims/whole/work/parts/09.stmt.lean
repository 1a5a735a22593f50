theorem ho_mono {p : Program} {l : Launch} {e : Env} {R : Room} {s : State} {m : MethodId} {args : Array Value} {below : List Frame} {meth : Method} {c : Code} {H : Heap} {locs : List Loc} {cells slots : Nat} {Q1 Q2 : State → Prop} {g : JFrame} (h : ∀ t, Q1 t → Q2 t) (k : W p l e R s m args below meth c H locs cells slots Q1 g) : W p l e R s m args below meth c H locs cells slots Q2 g := fun T hT X => by
  obtain ⟨t, a1, b1⟩ := k T hT X
  exact ⟨t, a1, h t b1⟩
section
variable {mi : ho_I} {ρ : Nat} {T T' T'' Ta : List Nat} {τ d pc p1 p2 p3 p4 pc' : Nat}
theorem ss_nop : ho_SS mi ρ T T pc pc zN := fun C hC hr v σ K hf hT hσ kk => kk v σ hf hT hσ
theorem ss_seq {f g : ho_Z} (h : ho_SS mi ρ T T' pc p1 f) (h2 : ho_SS mi ρ T' T'' p1 p2 g) : ho_SS mi ρ T T'' pc p2 (zS f g) := fun C hC hr v σ K hf hT hσ kk =>
  h C hC hr v σ _ hf hT hσ fun v σ hK hT hσ => h2 C hC hr v σ K hK hT hσ kk
theorem ss_if {c : ho_C} {f g : ho_Z} (hc : ho_SC mi T 0 pc p1 p2 c) (h : ho_SS mi ρ T T' p1 pc' f) (h2 : ho_SS mi ρ T T' p2 pc' g) : ho_SS mi ρ T T' pc pc' (zC c f g) := fun C hC hr v σ K hf hT hσ kk =>
  hc C hC v σ [] _ _ hf (Nat.zero_le _) hT hσ (fun σ hK hσ => h C hC hr v σ K hK hT hσ kk) (fun σ hK hσ => h2 C hC hr v σ K hK hT hσ kk)
theorem ho_ty_app {τ : Nat} {T : List Nat} {v : List Int} {x : Int} (h : ho_ty T v) (hx : ho_typ τ x) : ho_ty (T ++ [τ]) (v ++ [x]) := by
  refine ⟨by simp [h.1], fun i t y h1 h2 => ?_⟩
  by_cases hi : i < T.length
  · rw [List.getElem?_append_left hi] at h1
    rw [List.getElem?_append_left (by rw [← h.1]; exact hi)] at h2
    exact h.2 i t y h1 h2
  · rw [List.getElem?_append_right (by omega)] at h1
    rw [List.getElem?_append_right (by have := h.1; omega)] at h2
    have hz : i - T.length = 0 := by
      have := (List.getElem?_eq_some_iff.mp h1).1
      simp at this; omega
    have hz2 : i - v.length = 0 := by have := h.1; omega
    rw [hz] at h1; rw [hz2] at h2
    cases h1; cases h2; exact hx
theorem ho_app_at {τ : Nat} {T : List Nat} {v : List Int} {x : Int} (hT : ho_ty T v) (j σ : Nat) (y : Int) (h1 : (T ++ [τ])[j]? = some σ) (h2 : (v ++ [x])[j]? = some y) : (j = T.length ∧ σ = τ ∧ y = x) ∨ (j ≠ T.length ∧ T[j]? = some σ ∧ v[j]? = some y) := by
  by_cases hi : j < T.length
  · rw [List.getElem?_append_left hi] at h1
    rw [List.getElem?_append_left (by rw [← hT.1]; exact hi)] at h2
    exact Or.inr ⟨by omega, h1, h2⟩
  · rw [List.getElem?_append_right (by omega)] at h1
    rw [List.getElem?_append_right (by have := hT.1; omega)] at h2
    have hz : j - T.length = 0 := by
      have := (List.getElem?_eq_some_iff.mp h1).1
      simp at this; omega
    have hz2 : j - v.length = 0 := by have := hT.1; omega
    rw [hz] at h1; rw [hz2] at h2
    cases h1; cases h2; exact Or.inl ⟨by omega, rfl, rfl⟩
theorem ho_ty_set {τ i : Nat} {T : List Nat} {v : List Int} {x : Int} (h : ho_ty T v) (hi : T[i]? = some τ) (hx : ho_typ τ x) : ho_ty T (v.set i x) := by
  refine ⟨by simp [h.1], fun j t y h1 h2 => ?_⟩
  rw [List.getElem?_set] at h2
  by_cases hj : i = j
  · subst hj
    rw [if_pos rfl] at h2
    split at h2
    · cases h2; cases hi.symm.trans h1; exact hx
    · cases h2
  · rw [if_neg hj] at h2
    exact h.2 j t y h1 h2
theorem ho_set_at {τ i : Nat} {T : List Nat} {v : List Int} {x : Int} (hi : T[i]? = some τ) (j σ : Nat) (y : Int) (h1 : T[j]? = some σ) (h2 : (v.set i x)[j]? = some y) : (j = i ∧ σ = τ ∧ y = x) ∨ (j ≠ i ∧ T[j]? = some σ ∧ v[j]? = some y) := by
  rw [List.getElem?_set] at h2
  by_cases hj : i = j
  · subst hj
    rw [if_pos rfl] at h2
    split at h2
    · cases h2; cases hi.symm.trans h1; exact Or.inl ⟨rfl, rfl, rfl⟩
    · cases h2
  · rw [if_neg hj] at h2
    exact Or.inr ⟨fun q => hj q.symm, h1, h2⟩
theorem ss_decl {f : ho_E} {i : Nat} (h : ho_SE mi T 0 0 pc p1 f) (hi : T.length = i) (hn : i < mi.2.2.1) (hd : decode mi.2.1 p1 = .ok (.istore i, 2)) : ho_SS mi ρ T (T ++ [0]) pc (p1 + 2) (zD f) := by
  intro C hC hr v σ K hf hT hσ kk
  refine h C hC v σ [] _ hf (Nat.zero_le _) hT hσ fun x σ hKx hx hσ => ?_
  have hT2 := ho_ty_app hT hx
  obtain ⟨p, l, e, R, s, m, args, below, meth, c, dC, dI, cA, ad, A, Q, X, ρ9, Qf, nc, ns⟩ := C
  obtain ⟨he, hb, hm, ho, hts, hK, hA, hZ, hfr9, hlo9, hRc, hRs, hlk, hst0, hexc, hret, hqr, hzz⟩ := id hC
  intro hT hσ H locs ls hl hP hD hS
  subst hi
  have hh := ho_ls_has hl hT
  
  
  refine W.eq (g2 := F0 m p1 ls [.int (Int32.ofInt x)]) (by rfl) ?_
  refine lv_istore he hb hd hh (by rw [hm]; exact hn) rfl (fun ls' hl' => ?_)
  exact kk _ σ hKx hT2 hσ hT2 hσ H locs ls' (ho_ls_set (τ := 0) (x := x) hT (by exact hl') (fun j t y h1 h2 => ho_app_at hT j t y h1 h2)) hP hD hS
theorem ss_decl_n {f : ho_E} {i : Nat} {k : Fin 4} (h : ho_SE mi T 0 0 pc p1 f) (hi : T.length = i) (hk : (k : Nat) = i) (hn : i < mi.2.2.1) (hd : decode mi.2.1 p1 = .ok (.istore_n k, 1)) : ho_SS mi ρ T (T ++ [0]) pc (p1 + 1) (zD f) := by
  intro C hC hr v σ K hf hT hσ kk
  refine h C hC v σ [] _ hf (Nat.zero_le _) hT hσ fun x σ hKx hx hσ => ?_
  have hT2 := ho_ty_app hT hx
  obtain ⟨p, l, e, R, s, m, args, below, meth, c, dC, dI, cA, ad, A, Q, X, ρ9, Qf, nc, ns⟩ := C
  obtain ⟨he, hb, hm, ho, hts, hK, hA, hZ, hfr9, hlo9, hRc, hRs, hlk, hst0, hexc, hret, hqr, hzz⟩ := id hC
  intro hT hσ H locs ls hl hP hD hS
  subst hi
  have hh := ho_ls_has hl hT
  
  
  refine W.eq (g2 := F0 m p1 ls [.int (Int32.ofInt x)]) (by rfl) ?_
  refine lv_istore_n he hb hd hk hh (by rw [hm]; exact hn) rfl (fun ls' hl' => ?_)
  exact kk _ σ hKx hT2 hσ hT2 hσ H locs ls' (ho_ls_set (τ := 0) (x := x) hT (by exact hl') (fun j t y h1 h2 => ho_app_at hT j t y h1 h2)) hP hD hS
theorem ss_declr {f : ho_E} {i : Nat} (h : ho_SE mi T (τ + 1) 0 pc p1 f) (hi : T.length = i) (hn : i < mi.2.2.1) (hd : decode mi.2.1 p1 = .ok (.astore i, 2)) : ho_SS mi ρ T (T ++ [(τ + 1)]) pc (p1 + 2) (zD f) := by
  intro C hC hr v σ K hf hT hσ kk
  refine h C hC v σ [] _ hf (Nat.zero_le _) hT hσ fun x σ hKx hx hσ => ?_
  have hT2 := ho_ty_app hT hx
  obtain ⟨p, l, e, R, s, m, args, below, meth, c, dC, dI, cA, ad, A, Q, X, ρ9, Qf, nc, ns⟩ := C
  obtain ⟨he, hb, hm, ho, hts, hK, hA, hZ, hfr9, hlo9, hRc, hRs, hlk, hst0, hexc, hret, hqr, hzz⟩ := id hC
  intro hT hσ H locs ls hl hP hD hS
  subst hi
  have hh := ho_ls_has hl hT
  have hx0 : ho_val ad (τ + 1) x = .ref (ad x.toNat) := by unfold ho_val; rw [if_neg (by omega)]
  
  refine W.eq (g2 := F0 m p1 ls [.ref (ad x.toNat)]) (by show F0 m p1 ls [ho_val ad (τ + 1) x] = _; rw [hx0]) ?_
  refine lv_astore he hb hd hh (by rw [hm]; exact hn) rfl (fun ls' hl' => ?_)
  exact kk _ σ hKx hT2 hσ hT2 hσ H locs ls' (ho_ls_set (τ := (τ + 1)) (x := x) hT (by rw [hx0]; exact hl') (fun j t y h1 h2 => ho_app_at hT j t y h1 h2)) hP hD hS
theorem ss_declr_n {f : ho_E} {i : Nat} {k : Fin 4} (h : ho_SE mi T (τ + 1) 0 pc p1 f) (hi : T.length = i) (hk : (k : Nat) = i) (hn : i < mi.2.2.1) (hd : decode mi.2.1 p1 = .ok (.astore_n k, 1)) : ho_SS mi ρ T (T ++ [(τ + 1)]) pc (p1 + 1) (zD f) := by
  intro C hC hr v σ K hf hT hσ kk
  refine h C hC v σ [] _ hf (Nat.zero_le _) hT hσ fun x σ hKx hx hσ => ?_
  have hT2 := ho_ty_app hT hx
  obtain ⟨p, l, e, R, s, m, args, below, meth, c, dC, dI, cA, ad, A, Q, X, ρ9, Qf, nc, ns⟩ := C
  obtain ⟨he, hb, hm, ho, hts, hK, hA, hZ, hfr9, hlo9, hRc, hRs, hlk, hst0, hexc, hret, hqr, hzz⟩ := id hC
  intro hT hσ H locs ls hl hP hD hS
  subst hi
  have hh := ho_ls_has hl hT
  have hx0 : ho_val ad (τ + 1) x = .ref (ad x.toNat) := by unfold ho_val; rw [if_neg (by omega)]
  
  refine W.eq (g2 := F0 m p1 ls [.ref (ad x.toNat)]) (by show F0 m p1 ls [ho_val ad (τ + 1) x] = _; rw [hx0]) ?_
  refine lv_astore_n he hb hd hk hh (by rw [hm]; exact hn) rfl (fun ls' hl' => ?_)
  exact kk _ σ hKx hT2 hσ hT2 hσ H locs ls' (ho_ls_set (τ := (τ + 1)) (x := x) hT (by rw [hx0]; exact hl') (fun j t y h1 h2 => ho_app_at hT j t y h1 h2)) hP hD hS
theorem ss_set {f : ho_E} {i : Nat} (h : ho_SE mi T 0 0 pc p1 f) (hi : T[i]? = some 0) (hn : i < mi.2.2.1) (hd : decode mi.2.1 p1 = .ok (.istore i, 2)) : ho_SS mi ρ T T pc (p1 + 2) (zL i f) := by
  intro C hC hr v σ K hf hT hσ kk
  refine h C hC v σ [] _ hf (Nat.zero_le _) hT hσ fun x σ hKx hx hσ => ?_
  have hT2 := ho_ty_set hT hi hx
  obtain ⟨p, l, e, R, s, m, args, below, meth, c, dC, dI, cA, ad, A, Q, X, ρ9, Qf, nc, ns⟩ := C
  obtain ⟨he, hb, hm, ho, hts, hK, hA, hZ, hfr9, hlo9, hRc, hRs, hlk, hst0, hexc, hret, hqr, hzz⟩ := id hC
  intro hT hσ H locs ls hl hP hD hS
  have hh := ho_ls_has hl hT
  refine W.eq (g2 := F0 m p1 ls [.int (Int32.ofInt x)]) rfl ?_
  refine lv_istore he hb hd hh (by rw [hm]; exact hn) rfl (fun ls' hl' => ?_)
  exact kk _ σ hKx hT2 hσ hT2 hσ H locs ls' (ho_ls_set (τ := 0) (x := x) hT hl' (fun j t y h1 h2 => ho_set_at hi j t y h1 h2)) hP hD hS
theorem ss_set_n {f : ho_E} {i : Nat} {k : Fin 4} (h : ho_SE mi T 0 0 pc p1 f) (hi : T[i]? = some 0) (hk : (k : Nat) = i) (hn : i < mi.2.2.1) (hd : decode mi.2.1 p1 = .ok (.istore_n k, 1)) : ho_SS mi ρ T T pc (p1 + 1) (zL i f) := by
  intro C hC hr v σ K hf hT hσ kk
  refine h C hC v σ [] _ hf (Nat.zero_le _) hT hσ fun x σ hKx hx hσ => ?_
  have hT2 := ho_ty_set hT hi hx
  obtain ⟨p, l, e, R, s, m, args, below, meth, c, dC, dI, cA, ad, A, Q, X, ρ9, Qf, nc, ns⟩ := C
  obtain ⟨he, hb, hm, ho, hts, hK, hA, hZ, hfr9, hlo9, hRc, hRs, hlk, hst0, hexc, hret, hqr, hzz⟩ := id hC
  intro hT hσ H locs ls hl hP hD hS
  have hh := ho_ls_has hl hT
  refine W.eq (g2 := F0 m p1 ls [.int (Int32.ofInt x)]) rfl ?_
  refine lv_istore_n he hb hd hk hh (by rw [hm]; exact hn) rfl (fun ls' hl' => ?_)
  exact kk _ σ hKx hT2 hσ hT2 hσ H locs ls' (ho_ls_set (τ := 0) (x := x) hT hl' (fun j t y h1 h2 => ho_set_at hi j t y h1 h2)) hP hD hS
theorem ss_iinc {i : Nat} {n : Int} (hi : T[i]? = some 0) (hn : i < mi.2.2.1) (hd : decode mi.2.1 pc = .ok (.iinc i n, 3)) : ho_SS mi ρ T T pc (pc + 3) (zI i n) := by
  intro C hC hr v σ K hf hT hσ kk
  have hT2 := ho_ty_set hT hi (x := ho_w (v.getD i 0 + n)) (ho_w_in _)
  obtain ⟨p, l, e, R, s, m, args, below, meth, c, dC, dI, cA, ad, A, Q, X, ρ9, Qf, nc, ns⟩ := C
  obtain ⟨he, hb, hm, ho, hts, hK, hA, hZ, hfr9, hlo9, hRc, hRs, hlk, hst0, hexc, hret, hqr, hzz⟩ := id hC
  intro hT hσ H locs ls hl hP hD hS
  have hh := ho_ls_has hl hT
  have hk : (ho_ll ad T v)[i]? = some (i, .int (Int32.ofInt (v.getD i 0))) := by
    have h1 := (List.getElem?_eq_some_iff.mp hi).1
    have e1 : T.getD i 0 = 0 := by rw [List.getD_eq_getElem?_getD, hi]; rfl
    simp only [ho_ll, List.getElem?_map, List.getElem?_range h1, Option.map_some, e1]; rfl
  refine lv_iinc he hb hd hh (k := i) hk (v := Int32.ofInt (ho_w (v.getD i 0 + n))) (by rw [ho_add]) (by rw [hm]; exact hn) rfl (fun ls' hl' => ?_)
  exact kk _ σ hf hT2 hσ hT2 hσ H locs ls' (ho_ls_set (τ := 0) hT hl' (fun j t y h1 h2 => ho_set_at hi j t y h1 h2)) hP hD hS
theorem ho_ty_take {T : List Nat} {v : List Int} (n : Nat) (h : ho_ty T v) : ho_ty (T.take n) (v.take n) := by
  refine ⟨by simp [h.1], fun i t y h1 h2 => ?_⟩
  rw [List.getElem?_take] at h1 h2
  split at h1
  · rw [if_pos (by assumption)] at h2
    exact h.2 i t y h1 h2
  · cases h1
theorem ss_blk {f : ho_Z} {n : Nat} {T0 : List Nat} (h : ho_SS mi ρ T T' pc p1 f) (hT0 : T'.take n = T0) : ho_SS mi ρ T T0 pc p1 (zB n f) := by
  intro C hC hr v σ K hf hT hσ kk
  refine h C hC hr v σ _ hf hT hσ fun v σ hK hT hσ => ?_
  have h9 := kk _ σ hK (by rw [← hT0]; exact ho_ty_take n hT) hσ
  obtain ⟨p, l, e, R, s, m, args, below, meth, c, dC, dI, cA, ad, A, Q, X, ρ9, Qf, nc, ns⟩ := C
  intro hT hσ H locs ls hl hP hD hS
  refine h9 (by rw [← hT0]; exact ho_ty_take n hT) hσ H locs ls ⟨hl.1, hl.2.1, fun i t y h1 h2 => ?_⟩ hP hD hS
  rw [← hT0, List.getElem?_take] at h1
  rw [List.getElem?_take] at h2
  split at h1
  · rw [if_pos (by assumption)] at h2
    exact hl.2.2 i t y h1 h2
  · cases h1
theorem ss_while {c : ho_C} {f : ho_Z} (hc : ho_SC mi T 0 pc p1 p2 c) (h : ho_SS mi ρ T T p1 pc f) : ho_SS mi ρ T T pc p2 (zW c f) := by
  intro C hC hr v σ K hf hT hσ kk
  obtain ⟨J, ⟨n, hJ⟩, hstep⟩ := hf
  induction n using Nat.strongRecOn generalizing v σ with
  | _ n ih =>
    refine hc C hC v σ [] _ _ (hstep v σ n hJ) (Nat.zero_le _) hT hσ (fun σ hK hσ => ?_) (fun σ hK hσ => kk v σ hK hT hσ)
    refine h C hC hr v σ _ hK hT hσ fun v σ hK hT hσ => ?_
    obtain ⟨k, hk, hJ⟩ := hK
    exact ih k hk v σ hT hσ hJ
theorem ho_set_fld {cA : Nat → ClassId} {ad : Nat → Nat} {σ : ho_S} {k ci j : Nat} {x : Int} (h : ho_T k = ci + 4) (hF : ho_F ci j = 0) : (.inr (ci, ((List.range (ho_N k)).map (ho_fv ad σ k ci)).set j (.int (Int32.ofInt x))) : va_E) = ho_ce cA ad (ho_up σ k j x) k := by
  rw [ho_ce_obj h]
  congr 2
  refine List.ext_getElem? fun i => ?_
  rw [List.getElem?_set]
  by_cases hi : j = i
  · subst hi
    rw [if_pos rfl]
    by_cases hj : j < ho_N k
    · simp [hj, ho_fv, hF, ho_up]
    · simp [hj]
  · rw [if_neg hi]
    by_cases hj : i < ho_N k
    · have hi2 : i ≠ j := fun q => hi q.symm
      simp [hj, ho_fv, ho_up, hi2]
    · simp [hj]
theorem ho_putfield {C : ho_Cx} {v : List Int} {st : List Value} {σ : ho_S} {r x : Int} {ci j idx : Nat} {q : vw_C} (hC : ho_ok C mi) (hr : ho_typ (ci + 5) r) (hx : ho_in x) (hc : vwCl[ci]? = some q) (hj : j < q.2.2) (hF : ho_F ci j = 0) (hdesc : (q.2.1 j).2.2.1 = "I") (hfin : (q.2.1 j).2.2.2 = false) (hw : ∀ w ∈ u_ws q.1 q.2.1 q.2.2, w ∈ ho_TB) (tyq : Nat → FieldType) (htq : ∀ k, k < q.2.2 → parseFieldDescriptor (q.2.1 k).2.2.1 = some (tyq k)) (hnm : ∀ a, a < q.2.2 → ∀ b, b < q.2.2 → a ≠ b → (q.2.1 a).2.1 ≠ (q.2.1 b).2.1) (hlink : Cond.fieldLink mi.1 idx (q.2.1 j).1 (q.2.1 j).2.1 (q.2.1 j).2.2.1 ∈ ho_TB) (hd : decode mi.2.1 pc = .ok (.putfield idx, 3))
    (k : ho_P C (pc + 3) T v st (ho_up σ r.toNat j x)) : ho_P C pc T v (ho_val (ho_ad C) 0 x :: ho_val (ho_ad C) (ci + 5) r :: st) σ := by
  obtain ⟨hx0, hx1, hx2⟩ := ho_typS hr (ho_ci hc)
  obtain ⟨p, l, e, R, s, m, args, below, meth, c, dC, dI, cA, ad, A, Q, X, ρ9, Qf, nc, ns⟩ := C
  obtain ⟨he, hb, hm, ho, hts, hK, hA, hZ, hfr9, hlo9, hRc, hRs, hlk, hst0, hexc, hret, hqr, hzz⟩ := id hC
  intro hT hσ H locs ls hl hP hD hS
  have hg := ho_W_get (cA := cA) (ad := ad) (σ := σ) hx1
  rw [ho_ce_obj hx2] at hg
  have hv := (ho_field (cA := cA) (ad := ad) (σ := σ) hx1 hx2 hc hj).2
  refine W.eq (g2 := F0 m pc ls (.int (Int32.ofInt x) :: .ref (ad r.toNat) :: st)) (by
    show F0 m pc ls (ho_val ad 0 x :: ho_val ad (ci + 5) r :: st) = _
    unfold ho_val; rw [if_pos rfl, if_neg (by omega)]) ?_
  refine va_put (D := (dC, dI)) (C := q.1) (T := q.2.1) (N := q.2.2) he hb hts hw tyq htq hnm ho hK hP hD hS r.toNat hg hc j hj (hts _ hlink) (fun _ h9 => h9) hfin (ty := .int) (v := .int (Int32.ofInt x)) (by rw [hdesc]; decide +kernel) rfl rfl (by rw [List.length_map]; exact hv) hd (fun H1 locs1 hP1 hD1 hS1 => ?_)
  rw [ho_W_set (σ' := ho_up σ r.toNat j x) (ho_set_fld hx2 hF) ho_up_off] at hP1 hD1
  exact k hT (ho_rng_up hσ hx) H1 locs1 ls hl hP1 hD1 hS1
theorem ss_put {f g : ho_E} {ci j idx : Nat} {q : vw_C} (h : ho_SE mi T (ci + 5) 0 pc p1 f) (h2 : ho_SE mi T 0 1 p1 p2 g) (hc : vwCl[ci]? = some q) (hj : j < q.2.2) (hF : ho_F ci j = 0) (hdesc : (q.2.1 j).2.2.1 = "I") (hfin : (q.2.1 j).2.2.2 = false) (hw : ∀ w ∈ u_ws q.1 q.2.1 q.2.2, w ∈ ho_TB) (tyq : Nat → FieldType) (htq : ∀ k, k < q.2.2 → parseFieldDescriptor (q.2.1 k).2.2.1 = some (tyq k)) (hnm : ∀ a, a < q.2.2 → ∀ b, b < q.2.2 → a ≠ b → (q.2.1 a).2.1 ≠ (q.2.1 b).2.1) (hlink : Cond.fieldLink mi.1 idx (q.2.1 j).1 (q.2.1 j).2.1 (q.2.1 j).2.2.1 ∈ ho_TB) (hd : decode mi.2.1 p2 = .ok (.putfield idx, 3)) : ho_SS mi ρ T T pc (p2 + 3) (zP f j g) := by
  intro C hC hr v σ K hf hT hσ kk
  refine h C hC v σ [] _ hf (Nat.zero_le _) hT hσ fun r σ hKr hr9 hσ => ?_
  refine h2 C hC v σ _ _ hKr (by simp only [ho_cs, List.map_cons, List.map_nil, List.sum_cons, List.sum_nil, ho_cat]; omega) hT hσ fun x σ hKx hx hσ => ?_
  exact ho_putfield hC hr9 hx hc hj hF hdesc hfin hw tyq htq hnm hlink hd (kk v _ hKx hT (ho_rng_up hσ hx))
theorem ho_dup {C : ho_Cx} {v : List Int} {st : List Value} {σ : ho_S} {τ : Nat} {x : Int} (hC : ho_ok C mi) (hd : decode mi.2.1 pc = .ok (.dup, 1)) (k : ho_P C (pc + 1) T v (ho_val (ho_ad C) τ x :: ho_val (ho_ad C) τ x :: st) σ) : ho_P C pc T v (ho_val (ho_ad C) τ x :: st) σ := by
  obtain ⟨p, l, e, R, s, m, args, below, meth, c, dC, dI, cA, ad, A, Q, X, ρ9, Qf, nc, ns⟩ := C
  obtain ⟨he, hb, hm, ho, hts, hK, hA, hZ, hfr9, hlo9, hRc, hRs, hlk, hst0, hexc, hret, hqr, hzz⟩ := id hC
  intro hT hσ H locs ls hl hP hD hS
  exact lv_dup he hb hd (ho_cat _ _ _) (k hT hσ H locs ls hl hP hD hS)
theorem ho_dup2 {C : ho_Cx} {v : List Int} {st : List Value} {σ : ho_S} {τ τ2 : Nat} {x y : Int} (hC : ho_ok C mi) (hd : decode mi.2.1 pc = .ok (.dup2, 1)) (k : ho_P C (pc + 1) T v (ho_val (ho_ad C) τ x :: ho_val (ho_ad C) τ2 y :: ho_val (ho_ad C) τ x :: ho_val (ho_ad C) τ2 y :: st) σ) : ho_P C pc T v (ho_val (ho_ad C) τ x :: ho_val (ho_ad C) τ2 y :: st) σ := by
  obtain ⟨p, l, e, R, s, m, args, below, meth, c, dC, dI, cA, ad, A, Q, X, ρ9, Qf, nc, ns⟩ := C
  obtain ⟨he, hb, hm, ho, hts, hK, hA, hZ, hfr9, hlo9, hRc, hRs, hlk, hst0, hexc, hret, hqr, hzz⟩ := id hC
  intro hT hσ H locs ls hl hP hD hS
  exact lv_dup2_11 he hb hd (ho_cat _ _ _) (ho_cat _ _ _) (k hT hσ H locs ls hl hP hD hS)
/-- an expression that is there already: for what stands behind a dup -/
theorem se_here {C : ho_Cx} {f : ho_E} {v : List Int} {σ : ho_S} {st : List Value} {K : ho_K} {x0 : Int} (h : ho_SE mi (T ++ [τ]) 0 d pc p1 f) : True := trivial
theorem ho_getfield {C : ho_Cx} {v : List Int} {st : List Value} {σ : ho_S} {r : Int} {ci j idx : Nat} {q : vw_C} (hC : ho_ok C mi) (hr : ho_typ (ci + 5) r) (hc : vwCl[ci]? = some q) (hj : j < q.2.2) (hF : ho_F ci j = 0) (hw : ∀ w ∈ u_ws q.1 q.2.1 q.2.2, w ∈ ho_TB) (hlink : Cond.fieldLink mi.1 idx (q.2.1 j).1 (q.2.1 j).2.1 (q.2.1 j).2.2.1 ∈ ho_TB) (hd : decode mi.2.1 pc = .ok (.getfield idx, 3)) (k : ho_P C (pc + 3) T v (ho_val (ho_ad C) 0 (σ r.toNat j) :: st) σ) : ho_P C pc T v (ho_val (ho_ad C) (ci + 5) r :: st) σ := by
  obtain ⟨hx0, hx1, hx2⟩ := ho_typS hr (ho_ci hc)
  obtain ⟨p, l, e, R, s, m, args, below, meth, c, dC, dI, cA, ad, A, Q, X, ρ9, Qf, nc, ns⟩ := C
  obtain ⟨he, hb, hm, ho, hts, hK, hA, hZ, hfr9, hlo9, hRc, hRs, hlk, hst0, hexc, hret, hqr, hzz⟩ := id hC
  intro hT hσ H locs ls hl hP hD hS
  have hg := ho_W_get (cA := cA) (ad := ad) (σ := σ) hx1
  rw [ho_ce_obj hx2] at hg
  have hv := (ho_field (cA := cA) (ad := ad) (σ := σ) hx1 hx2 hc hj).1
  refine W.eq (g2 := F0 m pc ls (.ref (ad r.toNat) :: st)) (by
    show F0 m pc ls (ho_val ad (ci + 5) r :: st) = _
    unfold ho_val; rw [if_neg (by omega)]) ?_
  exact va_get (D := (dC, dI)) (C := q.1) (T := q.2.1) (N := q.2.2) he hb hts hw ho hK hP r.toNat hg hc j hj (hts _ hlink) (fun _ h9 => h9) (v := .int (Int32.ofInt (σ r.toNat j))) (by rw [hv, ho_fv, if_pos hF]) hd (k hT hσ H locs ls hl hP hD hS)
theorem ho_iaload {C : ho_Cx} {v : List Int} {st : List Value} {σ : ho_S} {r i : Int} (hC : ho_ok C mi) (hr : ho_typ 1 r) (hi : ho_in i) (hi0 : 0 ≤ i) (hi1 : i < (ho_N r.toNat : Int)) (hd : decode mi.2.1 pc = .ok (.iaload, 1)) (k : ho_P C (pc + 1) T v (ho_val (ho_ad C) 0 (σ r.toNat i.toNat) :: st) σ) : ho_P C pc T v (ho_val (ho_ad C) 0 i :: ho_val (ho_ad C) 1 r :: st) σ := by
  obtain ⟨hx0, hx1, hx2⟩ := ho_typS hr (by omega)
  obtain ⟨p, l, e, R, s, m, args, below, meth, c, dC, dI, cA, ad, A, Q, X, ρ9, Qf, nc, ns⟩ := C
  obtain ⟨he, hb, hm, ho, hts, hK, hA, hZ, hfr9, hlo9, hRc, hRs, hlk, hst0, hexc, hret, hqr, hzz⟩ := id hC
  intro hT hσ H locs ls hl hP hD hS
  have hg := ho_W_get (cA := cA) (ad := ad) (σ := σ) hx1
  rw [ho_ce_arr (by omega), hx2] at hg
  refine W.eq (g2 := F0 m pc ls (.int (Int32.ofInt i) :: .ref (ad r.toNat) :: st)) rfl ?_
  refine va_iald (D := (dC, dI)) (cl := vwCl) (tys := ho_tys cA) (ws := ho_W cA ad σ) he hb hK hP r.toNat 0 hg rfl (i := Int32.ofInt i) (ho_vpin hi hi0 hi1) hd ?_
  rw [ho_clamp hi]
  exact k hT hσ H locs ls hl hP hD hS
theorem ho_iastore {C : ho_Cx} {v : List Int} {st : List Value} {σ : ho_S} {r i x : Int} (hC : ho_ok C mi) (hr : ho_typ 1 r) (hi : ho_in i) (hx : ho_in x) (hi0 : 0 ≤ i) (hi1 : i < (ho_N r.toNat : Int)) (hd : decode mi.2.1 pc = .ok (.iastore, 1)) (k : ho_P C (pc + 1) T v st (ho_up σ r.toNat i.toNat (ho_nid x))) : ho_P C pc T v (ho_val (ho_ad C) 0 x :: ho_val (ho_ad C) 0 i :: ho_val (ho_ad C) 1 r :: st) σ := by
  obtain ⟨hx0, hx1, hx2⟩ := ho_typS hr (by omega)
  obtain ⟨p, l, e, R, s, m, args, below, meth, c, dC, dI, cA, ad, A, Q, X, ρ9, Qf, nc, ns⟩ := C
  obtain ⟨he, hb, hm, ho, hts, hK, hA, hZ, hfr9, hlo9, hRc, hRs, hlk, hst0, hexc, hret, hqr, hzz⟩ := id hC
  intro hT hσ H locs ls hl hP hD hS
  have hg := ho_W_get (cA := cA) (ad := ad) (σ := σ) hx1
  rw [ho_ce_arr (by omega), hx2] at hg
  refine W.eq (g2 := F0 m pc ls (.int (Int32.ofInt x) :: .int (Int32.ofInt i) :: .ref (ad r.toNat) :: st)) rfl ?_
  refine va_iast (D := (dC, dI)) (cl := vwCl) (tys := ho_tys cA) (ws := ho_W cA ad σ) he hb hK hP hD hS r.toNat 0 hg rfl (i := Int32.ofInt i) (x := Int32.ofInt x) (ho_vpin hi hi0 hi1) hd (fun H1 locs1 hP1 hD1 hS1 => ?_)
  have e9 : (.inl (cA 0, ho_N r.toNat, .inl (upd (fun j => Int32.ofInt (σ r.toNat j)) (Int32.ofInt i).toNatClampNeg (Int32.ofInt x))) : va_E) = ho_ce cA ad (ho_up σ r.toNat i.toNat (ho_nid x)) r.toNat := by
    rw [ho_ce_arr (by omega), hx2, ho_clamp hi]
    congr 4
    funext j
    by_cases hj : j = i.toNat
    · subst hj; simp [upd, ho_up, ho_nid, ho_oi]
    · simp [upd, ho_up, hj]
  rw [ho_W_set (σ' := ho_up σ r.toNat i.toNat (ho_nid x)) e9 ho_up_off] at hP1 hD1
  exact k hT (ho_rng_up hσ hx) H1 locs1 ls hl hP1 hD1 hS1
theorem ss_iastore {f g h : ho_E} (hf : ho_SE mi T 1 0 pc p1 f) (hg : ho_SE mi T 0 1 p1 p2 g) (hh : ho_SE mi T 0 2 p2 p3 h) (hd : decode mi.2.1 p3 = .ok (.iastore, 1)) : ho_SS mi ρ T T pc (p3 + 1) (zA ho_nid f g h) := by
  intro C hC hr v σ K hK hT hσ kk
  refine hf C hC v σ [] _ hK (Nat.zero_le _) hT hσ fun r σ hKr hr9 hσ => ?_
  refine hg C hC v σ _ _ hKr (by simp only [ho_cs, List.map_cons, List.map_nil, List.sum_cons, List.sum_nil, ho_cat]; omega) hT hσ fun i σ hKi hi hσ => ?_
  refine hh C hC v σ _ _ hKi (by simp only [ho_cs, List.map_cons, List.map_nil, List.sum_cons, List.sum_nil, ho_cat]; omega) hT hσ fun x σ hKx hx hσ => ?_
  exact ho_iastore hC hr9 hi hx hKx.1.1 hKx.1.2 hd (kk v _ hKx.2 hT (ho_rng_up hσ hx))
theorem ho_bastore {C : ho_Cx} {v : List Int} {st : List Value} {σ : ho_S} {r i x : Int} (hC : ho_ok C mi) (hr : ho_typ 2 r) (hi : ho_in i) (hx : ho_in x) (hi0 : 0 ≤ i) (hi1 : i < (ho_N r.toNat : Int)) (hd : decode mi.2.1 pc = .ok (.bastore, 1)) (k : ho_P C (pc + 1) T v st (ho_up σ r.toNat i.toNat (ho_nz x))) : ho_P C pc T v (ho_val (ho_ad C) 0 x :: ho_val (ho_ad C) 0 i :: ho_val (ho_ad C) 2 r :: st) σ := by
  obtain ⟨hx0, hx1, hx2⟩ := ho_typS hr (by omega)
  obtain ⟨p, l, e, R, s, m, args, below, meth, c, dC, dI, cA, ad, A, Q, X, ρ9, Qf, nc, ns⟩ := C
  obtain ⟨he, hb, hm, ho, hts, hK, hA, hZ, hfr9, hlo9, hRc, hRs, hlk, hst0, hexc, hret, hqr, hzz⟩ := id hC
  intro hT hσ H locs ls hl hP hD hS
  have hg := ho_W_get (cA := cA) (ad := ad) (σ := σ) hx1
  rw [ho_ce_arr (by omega), hx2] at hg
  refine W.eq (g2 := F0 m pc ls (.int (Int32.ofInt x) :: .int (Int32.ofInt i) :: .ref (ad r.toNat) :: st)) rfl ?_
  refine va_zast (D := (dC, dI)) (cl := vwCl) (tys := ho_tys cA) (ws := ho_W cA ad σ) he hb hK hP hD hS r.toNat 1 hg rfl (i := Int32.ofInt i) (x := Int32.ofInt x) (ho_vpin hi hi0 hi1) hd (fun H1 locs1 hP1 hD1 hS1 => ?_)
  have e9 : (.inl (cA 1, ho_N r.toNat, .inl (upd (fun j => Int32.ofInt (σ r.toNat j)) (Int32.ofInt i).toNatClampNeg (vp_nar .boolean (Int32.ofInt x)))) : va_E) = ho_ce cA ad (ho_up σ r.toNat i.toNat (ho_nz x)) r.toNat := by
    rw [ho_ce_arr (by omega), hx2, ho_clamp hi]
    congr 4
    funext j
    by_cases hj : j = i.toNat
    · subst hj; simp [upd, ho_up, ho_nz, ho_oi]
    · simp [upd, ho_up, hj]
  rw [ho_W_set (σ' := ho_up σ r.toNat i.toNat (ho_nz x)) e9 ho_up_off] at hP1 hD1
  exact k hT (ho_rng_up hσ (ho_ti_in _)) H1 locs1 ls hl hP1 hD1 hS1
theorem ss_bastore {f g h : ho_E} (hf : ho_SE mi T 2 0 pc p1 f) (hg : ho_SE mi T 0 1 p1 p2 g) (hh : ho_SE mi T 0 2 p2 p3 h) (hd : decode mi.2.1 p3 = .ok (.bastore, 1)) : ho_SS mi ρ T T pc (p3 + 1) (zA ho_nz f g h) := by
  intro C hC hr v σ K hK hT hσ kk
  refine hf C hC v σ [] _ hK (Nat.zero_le _) hT hσ fun r σ hKr hr9 hσ => ?_
  refine hg C hC v σ _ _ hKr (by simp only [ho_cs, List.map_cons, List.map_nil, List.sum_cons, List.sum_nil, ho_cat]; omega) hT hσ fun i σ hKi hi hσ => ?_
  refine hh C hC v σ _ _ hKi (by simp only [ho_cs, List.map_cons, List.map_nil, List.sum_cons, List.sum_nil, ho_cat]; omega) hT hσ fun x σ hKx hx hσ => ?_
  exact ho_bastore hC hr9 hi hx hKx.1.1 hKx.1.2 hd (kk v _ hKx.2 hT (ho_rng_up hσ (ho_ti_in _)))
theorem ho_castore {C : ho_Cx} {v : List Int} {st : List Value} {σ : ho_S} {r i x : Int} (hC : ho_ok C mi) (hr : ho_typ 3 r) (hi : ho_in i) (hx : ho_in x) (hi0 : 0 ≤ i) (hi1 : i < (ho_N r.toNat : Int)) (hd : decode mi.2.1 pc = .ok (.castore, 1)) (k : ho_P C (pc + 1) T v st (ho_up σ r.toNat i.toNat (ho_nc x))) : ho_P C pc T v (ho_val (ho_ad C) 0 x :: ho_val (ho_ad C) 0 i :: ho_val (ho_ad C) 3 r :: st) σ := by
  obtain ⟨hx0, hx1, hx2⟩ := ho_typS hr (by omega)
  obtain ⟨p, l, e, R, s, m, args, below, meth, c, dC, dI, cA, ad, A, Q, X, ρ9, Qf, nc, ns⟩ := C
  obtain ⟨he, hb, hm, ho, hts, hK, hA, hZ, hfr9, hlo9, hRc, hRs, hlk, hst0, hexc, hret, hqr, hzz⟩ := id hC
  intro hT hσ H locs ls hl hP hD hS
  have hg := ho_W_get (cA := cA) (ad := ad) (σ := σ) hx1
  rw [ho_ce_arr (by omega), hx2] at hg
  refine W.eq (g2 := F0 m pc ls (.int (Int32.ofInt x) :: .int (Int32.ofInt i) :: .ref (ad r.toNat) :: st)) rfl ?_
  refine va_cast (D := (dC, dI)) (cl := vwCl) (tys := ho_tys cA) (ws := ho_W cA ad σ) he hb hK hP hD hS r.toNat 2 hg rfl (i := Int32.ofInt i) (x := Int32.ofInt x) (ho_vpin hi hi0 hi1) hd (fun H1 locs1 hP1 hD1 hS1 => ?_)
  have e9 : (.inl (cA 2, ho_N r.toNat, .inl (upd (fun j => Int32.ofInt (σ r.toNat j)) (Int32.ofInt i).toNatClampNeg (vp_nar .char (Int32.ofInt x)))) : va_E) = ho_ce cA ad (ho_up σ r.toNat i.toNat (ho_nc x)) r.toNat := by
    rw [ho_ce_arr (by omega), hx2, ho_clamp hi]
    congr 4
    funext j
    by_cases hj : j = i.toNat
    · subst hj; simp [upd, ho_up, ho_nc, ho_oi]
    · simp [upd, ho_up, hj]
  rw [ho_W_set (σ' := ho_up σ r.toNat i.toNat (ho_nc x)) e9 ho_up_off] at hP1 hD1
  exact k hT (ho_rng_up hσ (ho_ti_in _)) H1 locs1 ls hl hP1 hD1 hS1
theorem ss_castore {f g h : ho_E} (hf : ho_SE mi T 3 0 pc p1 f) (hg : ho_SE mi T 0 1 p1 p2 g) (hh : ho_SE mi T 0 2 p2 p3 h) (hd : decode mi.2.1 p3 = .ok (.castore, 1)) : ho_SS mi ρ T T pc (p3 + 1) (zA ho_nc f g h) := by
  intro C hC hr v σ K hK hT hσ kk
  refine hf C hC v σ [] _ hK (Nat.zero_le _) hT hσ fun r σ hKr hr9 hσ => ?_
  refine hg C hC v σ _ _ hKr (by simp only [ho_cs, List.map_cons, List.map_nil, List.sum_cons, List.sum_nil, ho_cat]; omega) hT hσ fun i σ hKi hi hσ => ?_
  refine hh C hC v σ _ _ hKi (by simp only [ho_cs, List.map_cons, List.map_nil, List.sum_cons, List.sum_nil, ho_cat]; omega) hT hσ fun x σ hKx hx hσ => ?_
  exact ho_castore hC hr9 hi hx hKx.1.1 hKx.1.2 hd (kk v _ hKx.2 hT (ho_rng_up hσ (ho_ti_in _)))
theorem ho_iadd {C : ho_Cx} {v : List Int} {st : List Value} {σ : ho_S} {a b : Int} (hC : ho_ok C mi) (hd : decode mi.2.1 pc = .ok (.iadd, 1)) (k : ho_P C (pc + 1) T v (ho_val (ho_ad C) 0 (ho_oadd a b) :: st) σ) : ho_P C pc T v (ho_val (ho_ad C) 0 b :: ho_val (ho_ad C) 0 a :: st) σ := by
  obtain ⟨p, l, e, R, s, m, args, below, meth, c, dC, dI, cA, ad, A, Q, X, ρ9, Qf, nc, ns⟩ := C
  obtain ⟨he, hb, hm, ho, hts, hK, hA, hZ, hfr9, hlo9, hRc, hRs, hlk, hst0, hexc, hret, hqr, hzz⟩ := id hC
  intro hT hσ H locs ls hl hP hD hS
  have e9 : Int32.ofInt a + Int32.ofInt b = Int32.ofInt (ho_oadd a b) := ho_add a b
  refine lv_iadd (x := Int32.ofInt a) (y := Int32.ofInt b) he hb hd ?_
  rw [e9]
  exact k hT hσ H locs ls hl hP hD hS
theorem ss_fadd {f g : ho_E} {ci j idx : Nat} {q : vw_C} (h : ho_SE mi T (ci + 5) 0 pc p1 f) (hd1 : decode mi.2.1 p1 = .ok (.dup, 1)) (hd2 : decode mi.2.1 (p1 + 1) = .ok (.getfield idx, 3)) (h2 : ho_SE mi T 0 2 (p1 + 4) p2 g) (hd3 : decode mi.2.1 p2 = .ok (.iadd, 1)) (hc : vwCl[ci]? = some q) (hj : j < q.2.2) (hF : ho_F ci j = 0) (hdesc : (q.2.1 j).2.2.1 = "I") (hfin : (q.2.1 j).2.2.2 = false) (hw : ∀ w ∈ u_ws q.1 q.2.1 q.2.2, w ∈ ho_TB) (tyq : Nat → FieldType) (htq : ∀ k, k < q.2.2 → parseFieldDescriptor (q.2.1 k).2.2.1 = some (tyq k)) (hnm : ∀ a, a < q.2.2 → ∀ b, b < q.2.2 → a ≠ b → (q.2.1 a).2.1 ≠ (q.2.1 b).2.1) (hlink : Cond.fieldLink mi.1 idx (q.2.1 j).1 (q.2.1 j).2.1 (q.2.1 j).2.2.1 ∈ ho_TB) (hd : decode mi.2.1 (p2 + 1) = .ok (.putfield idx, 3)) : ho_SS mi ρ T T pc (p2 + 4) (zF f j ho_oadd g) := by
  intro C hC hr v σ K hf hT hσ kk
  refine h C hC v σ [] _ hf (Nat.zero_le _) hT hσ fun r σ hKr hr9 hσ => ?_
  refine ho_dup hC hd1 (ho_getfield hC hr9 hc hj hF hw hlink hd2 ?_)
  have hin := hσ r.toNat j
  refine h2 C hC v σ _ _ hKr (by simp only [ho_cs, List.map_cons, List.map_nil, List.sum_cons, List.sum_nil, ho_cat]; omega) hT hσ fun x σ' hKx hx hσ' => ?_
  refine ho_iadd hC hd3 ?_
  exact ho_putfield hC hr9 (ho_w_in _) hc hj hF hdesc hfin hw tyq htq hnm hlink hd (kk v _ hKx hT (ho_rng_up hσ' (ho_w_in _)))
theorem ss_aadd {f g h : ho_E} (hf : ho_SE mi T 1 0 pc p1 f) (hg : ho_SE mi T 0 1 p1 p2 g) (hd1 : decode mi.2.1 p2 = .ok (.dup2, 1)) (hd2 : decode mi.2.1 (p2 + 1) = .ok (.iaload, 1)) (hh : ho_SE mi T 0 3 (p2 + 2) p3 h) (hd3 : decode mi.2.1 p3 = .ok (.iadd, 1)) (hd4 : decode mi.2.1 (p3 + 1) = .ok (.iastore, 1)) : ho_SS mi ρ T T pc (p3 + 2) (zU f g ho_oadd h) := by
  intro C hC hr v σ K hK hT hσ kk
  refine hf C hC v σ [] _ hK (Nat.zero_le _) hT hσ fun r σ hKr hr9 hσ => ?_
  refine hg C hC v σ _ _ hKr (by simp only [ho_cs, List.map_cons, List.map_nil, List.sum_cons, List.sum_nil, ho_cat]; omega) hT hσ fun i σ hKi hi hσ => ?_
  obtain ⟨⟨hi0, hi1⟩, hKi⟩ := hKi
  refine ho_dup2 hC hd1 (ho_iaload hC hr9 hi hi0 hi1 hd2 ?_)
  refine hh C hC v σ _ _ hKi (by simp only [ho_cs, List.map_cons, List.map_nil, List.sum_cons, List.sum_nil, ho_cat]; omega) hT hσ fun x σ' hKx hx hσ' => ?_
  refine ho_iadd hC hd3 ?_
  exact ho_iastore hC hr9 hi (ho_w_in _) hi0 hi1 hd4 (kk v _ hKx hT (ho_rng_up hσ' (ho_w_in _)))
theorem ho_isub {C : ho_Cx} {v : List Int} {st : List Value} {σ : ho_S} {a b : Int} (hC : ho_ok C mi) (hd : decode mi.2.1 pc = .ok (.isub, 1)) (k : ho_P C (pc + 1) T v (ho_val (ho_ad C) 0 (ho_osub a b) :: st) σ) : ho_P C pc T v (ho_val (ho_ad C) 0 b :: ho_val (ho_ad C) 0 a :: st) σ := by
  obtain ⟨p, l, e, R, s, m, args, below, meth, c, dC, dI, cA, ad, A, Q, X, ρ9, Qf, nc, ns⟩ := C
  obtain ⟨he, hb, hm, ho, hts, hK, hA, hZ, hfr9, hlo9, hRc, hRs, hlk, hst0, hexc, hret, hqr, hzz⟩ := id hC
  intro hT hσ H locs ls hl hP hD hS
  have e9 : Int32.ofInt a - Int32.ofInt b = Int32.ofInt (ho_osub a b) := ho_sub a b
  refine lv_isub (x := Int32.ofInt a) (y := Int32.ofInt b) he hb hd ?_
  rw [e9]
  exact k hT hσ H locs ls hl hP hD hS
theorem ss_fsub {f g : ho_E} {ci j idx : Nat} {q : vw_C} (h : ho_SE mi T (ci + 5) 0 pc p1 f) (hd1 : decode mi.2.1 p1 = .ok (.dup, 1)) (hd2 : decode mi.2.1 (p1 + 1) = .ok (.getfield idx, 3)) (h2 : ho_SE mi T 0 2 (p1 + 4) p2 g) (hd3 : decode mi.2.1 p2 = .ok (.isub, 1)) (hc : vwCl[ci]? = some q) (hj : j < q.2.2) (hF : ho_F ci j = 0) (hdesc : (q.2.1 j).2.2.1 = "I") (hfin : (q.2.1 j).2.2.2 = false) (hw : ∀ w ∈ u_ws q.1 q.2.1 q.2.2, w ∈ ho_TB) (tyq : Nat → FieldType) (htq : ∀ k, k < q.2.2 → parseFieldDescriptor (q.2.1 k).2.2.1 = some (tyq k)) (hnm : ∀ a, a < q.2.2 → ∀ b, b < q.2.2 → a ≠ b → (q.2.1 a).2.1 ≠ (q.2.1 b).2.1) (hlink : Cond.fieldLink mi.1 idx (q.2.1 j).1 (q.2.1 j).2.1 (q.2.1 j).2.2.1 ∈ ho_TB) (hd : decode mi.2.1 (p2 + 1) = .ok (.putfield idx, 3)) : ho_SS mi ρ T T pc (p2 + 4) (zF f j ho_osub g) := by
  intro C hC hr v σ K hf hT hσ kk
  refine h C hC v σ [] _ hf (Nat.zero_le _) hT hσ fun r σ hKr hr9 hσ => ?_
  refine ho_dup hC hd1 (ho_getfield hC hr9 hc hj hF hw hlink hd2 ?_)
  have hin := hσ r.toNat j
  refine h2 C hC v σ _ _ hKr (by simp only [ho_cs, List.map_cons, List.map_nil, List.sum_cons, List.sum_nil, ho_cat]; omega) hT hσ fun x σ' hKx hx hσ' => ?_
  refine ho_isub hC hd3 ?_
  exact ho_putfield hC hr9 (ho_w_in _) hc hj hF hdesc hfin hw tyq htq hnm hlink hd (kk v _ hKx hT (ho_rng_up hσ' (ho_w_in _)))
theorem ss_asub {f g h : ho_E} (hf : ho_SE mi T 1 0 pc p1 f) (hg : ho_SE mi T 0 1 p1 p2 g) (hd1 : decode mi.2.1 p2 = .ok (.dup2, 1)) (hd2 : decode mi.2.1 (p2 + 1) = .ok (.iaload, 1)) (hh : ho_SE mi T 0 3 (p2 + 2) p3 h) (hd3 : decode mi.2.1 p3 = .ok (.isub, 1)) (hd4 : decode mi.2.1 (p3 + 1) = .ok (.iastore, 1)) : ho_SS mi ρ T T pc (p3 + 2) (zU f g ho_osub h) := by
  intro C hC hr v σ K hK hT hσ kk
  refine hf C hC v σ [] _ hK (Nat.zero_le _) hT hσ fun r σ hKr hr9 hσ => ?_
  refine hg C hC v σ _ _ hKr (by simp only [ho_cs, List.map_cons, List.map_nil, List.sum_cons, List.sum_nil, ho_cat]; omega) hT hσ fun i σ hKi hi hσ => ?_
  obtain ⟨⟨hi0, hi1⟩, hKi⟩ := hKi
  refine ho_dup2 hC hd1 (ho_iaload hC hr9 hi hi0 hi1 hd2 ?_)
  refine hh C hC v σ _ _ hKi (by simp only [ho_cs, List.map_cons, List.map_nil, List.sum_cons, List.sum_nil, ho_cat]; omega) hT hσ fun x σ' hKx hx hσ' => ?_
  refine ho_isub hC hd3 ?_
  exact ho_iastore hC hr9 hi (ho_w_in _) hi0 hi1 hd4 (kk v _ hKx hT (ho_rng_up hσ' (ho_w_in _)))
theorem ho_iand {C : ho_Cx} {v : List Int} {st : List Value} {σ : ho_S} {a b : Int} (hC : ho_ok C mi) (hd : decode mi.2.1 pc = .ok (.iand, 1)) (k : ho_P C (pc + 1) T v (ho_val (ho_ad C) 0 (ho_oand a b) :: st) σ) : ho_P C pc T v (ho_val (ho_ad C) 0 b :: ho_val (ho_ad C) 0 a :: st) σ := by
  obtain ⟨p, l, e, R, s, m, args, below, meth, c, dC, dI, cA, ad, A, Q, X, ρ9, Qf, nc, ns⟩ := C
  obtain ⟨he, hb, hm, ho, hts, hK, hA, hZ, hfr9, hlo9, hRc, hRs, hlk, hst0, hexc, hret, hqr, hzz⟩ := id hC
  intro hT hσ H locs ls hl hP hD hS
  have e9 : Int32.ofInt a &&& Int32.ofInt b = Int32.ofInt (ho_oand a b) := (ho_oi _).symm
  refine lv_iand (x := Int32.ofInt a) (y := Int32.ofInt b) he hb hd ?_
  rw [e9]
  exact k hT hσ H locs ls hl hP hD hS
theorem ss_fand {f g : ho_E} {ci j idx : Nat} {q : vw_C} (h : ho_SE mi T (ci + 5) 0 pc p1 f) (hd1 : decode mi.2.1 p1 = .ok (.dup, 1)) (hd2 : decode mi.2.1 (p1 + 1) = .ok (.getfield idx, 3)) (h2 : ho_SE mi T 0 2 (p1 + 4) p2 g) (hd3 : decode mi.2.1 p2 = .ok (.iand, 1)) (hc : vwCl[ci]? = some q) (hj : j < q.2.2) (hF : ho_F ci j = 0) (hdesc : (q.2.1 j).2.2.1 = "I") (hfin : (q.2.1 j).2.2.2 = false) (hw : ∀ w ∈ u_ws q.1 q.2.1 q.2.2, w ∈ ho_TB) (tyq : Nat → FieldType) (htq : ∀ k, k < q.2.2 → parseFieldDescriptor (q.2.1 k).2.2.1 = some (tyq k)) (hnm : ∀ a, a < q.2.2 → ∀ b, b < q.2.2 → a ≠ b → (q.2.1 a).2.1 ≠ (q.2.1 b).2.1) (hlink : Cond.fieldLink mi.1 idx (q.2.1 j).1 (q.2.1 j).2.1 (q.2.1 j).2.2.1 ∈ ho_TB) (hd : decode mi.2.1 (p2 + 1) = .ok (.putfield idx, 3)) : ho_SS mi ρ T T pc (p2 + 4) (zF f j ho_oand g) := by
  intro C hC hr v σ K hf hT hσ kk
  refine h C hC v σ [] _ hf (Nat.zero_le _) hT hσ fun r σ hKr hr9 hσ => ?_
  refine ho_dup hC hd1 (ho_getfield hC hr9 hc hj hF hw hlink hd2 ?_)
  have hin := hσ r.toNat j
  refine h2 C hC v σ _ _ hKr (by simp only [ho_cs, List.map_cons, List.map_nil, List.sum_cons, List.sum_nil, ho_cat]; omega) hT hσ fun x σ' hKx hx hσ' => ?_
  refine ho_iand hC hd3 ?_
  exact ho_putfield hC hr9 (ho_ti_in _) hc hj hF hdesc hfin hw tyq htq hnm hlink hd (kk v _ hKx hT (ho_rng_up hσ' (ho_ti_in _)))
theorem ss_aand {f g h : ho_E} (hf : ho_SE mi T 1 0 pc p1 f) (hg : ho_SE mi T 0 1 p1 p2 g) (hd1 : decode mi.2.1 p2 = .ok (.dup2, 1)) (hd2 : decode mi.2.1 (p2 + 1) = .ok (.iaload, 1)) (hh : ho_SE mi T 0 3 (p2 + 2) p3 h) (hd3 : decode mi.2.1 p3 = .ok (.iand, 1)) (hd4 : decode mi.2.1 (p3 + 1) = .ok (.iastore, 1)) : ho_SS mi ρ T T pc (p3 + 2) (zU f g ho_oand h) := by
  intro C hC hr v σ K hK hT hσ kk
  refine hf C hC v σ [] _ hK (Nat.zero_le _) hT hσ fun r σ hKr hr9 hσ => ?_
  refine hg C hC v σ _ _ hKr (by simp only [ho_cs, List.map_cons, List.map_nil, List.sum_cons, List.sum_nil, ho_cat]; omega) hT hσ fun i σ hKi hi hσ => ?_
  obtain ⟨⟨hi0, hi1⟩, hKi⟩ := hKi
  refine ho_dup2 hC hd1 (ho_iaload hC hr9 hi hi0 hi1 hd2 ?_)
  refine hh C hC v σ _ _ hKi (by simp only [ho_cs, List.map_cons, List.map_nil, List.sum_cons, List.sum_nil, ho_cat]; omega) hT hσ fun x σ' hKx hx hσ' => ?_
  refine ho_iand hC hd3 ?_
  exact ho_iastore hC hr9 hi (ho_ti_in _) hi0 hi1 hd4 (kk v _ hKx hT (ho_rng_up hσ' (ho_ti_in _)))
theorem ho_ior {C : ho_Cx} {v : List Int} {st : List Value} {σ : ho_S} {a b : Int} (hC : ho_ok C mi) (hd : decode mi.2.1 pc = .ok (.ior, 1)) (k : ho_P C (pc + 1) T v (ho_val (ho_ad C) 0 (ho_oor a b) :: st) σ) : ho_P C pc T v (ho_val (ho_ad C) 0 b :: ho_val (ho_ad C) 0 a :: st) σ := by
  obtain ⟨p, l, e, R, s, m, args, below, meth, c, dC, dI, cA, ad, A, Q, X, ρ9, Qf, nc, ns⟩ := C
  obtain ⟨he, hb, hm, ho, hts, hK, hA, hZ, hfr9, hlo9, hRc, hRs, hlk, hst0, hexc, hret, hqr, hzz⟩ := id hC
  intro hT hσ H locs ls hl hP hD hS
  have e9 : Int32.ofInt a ||| Int32.ofInt b = Int32.ofInt (ho_oor a b) := (ho_oi _).symm
  refine lv_ior (x := Int32.ofInt a) (y := Int32.ofInt b) he hb hd ?_
  rw [e9]
  exact k hT hσ H locs ls hl hP hD hS
theorem ss_for {f g : ho_E} {ci j idx : Nat} {q : vw_C} (h : ho_SE mi T (ci + 5) 0 pc p1 f) (hd1 : decode mi.2.1 p1 = .ok (.dup, 1)) (hd2 : decode mi.2.1 (p1 + 1) = .ok (.getfield idx, 3)) (h2 : ho_SE mi T 0 2 (p1 + 4) p2 g) (hd3 : decode mi.2.1 p2 = .ok (.ior, 1)) (hc : vwCl[ci]? = some q) (hj : j < q.2.2) (hF : ho_F ci j = 0) (hdesc : (q.2.1 j).2.2.1 = "I") (hfin : (q.2.1 j).2.2.2 = false) (hw : ∀ w ∈ u_ws q.1 q.2.1 q.2.2, w ∈ ho_TB) (tyq : Nat → FieldType) (htq : ∀ k, k < q.2.2 → parseFieldDescriptor (q.2.1 k).2.2.1 = some (tyq k)) (hnm : ∀ a, a < q.2.2 → ∀ b, b < q.2.2 → a ≠ b → (q.2.1 a).2.1 ≠ (q.2.1 b).2.1) (hlink : Cond.fieldLink mi.1 idx (q.2.1 j).1 (q.2.1 j).2.1 (q.2.1 j).2.2.1 ∈ ho_TB) (hd : decode mi.2.1 (p2 + 1) = .ok (.putfield idx, 3)) : ho_SS mi ρ T T pc (p2 + 4) (zF f j ho_oor g) := by
  intro C hC hr v σ K hf hT hσ kk
  refine h C hC v σ [] _ hf (Nat.zero_le _) hT hσ fun r σ hKr hr9 hσ => ?_
  refine ho_dup hC hd1 (ho_getfield hC hr9 hc hj hF hw hlink hd2 ?_)
  have hin := hσ r.toNat j
  refine h2 C hC v σ _ _ hKr (by simp only [ho_cs, List.map_cons, List.map_nil, List.sum_cons, List.sum_nil, ho_cat]; omega) hT hσ fun x σ' hKx hx hσ' => ?_
  refine ho_ior hC hd3 ?_
  exact ho_putfield hC hr9 (ho_ti_in _) hc hj hF hdesc hfin hw tyq htq hnm hlink hd (kk v _ hKx hT (ho_rng_up hσ' (ho_ti_in _)))
theorem ss_aor {f g h : ho_E} (hf : ho_SE mi T 1 0 pc p1 f) (hg : ho_SE mi T 0 1 p1 p2 g) (hd1 : decode mi.2.1 p2 = .ok (.dup2, 1)) (hd2 : decode mi.2.1 (p2 + 1) = .ok (.iaload, 1)) (hh : ho_SE mi T 0 3 (p2 + 2) p3 h) (hd3 : decode mi.2.1 p3 = .ok (.ior, 1)) (hd4 : decode mi.2.1 (p3 + 1) = .ok (.iastore, 1)) : ho_SS mi ρ T T pc (p3 + 2) (zU f g ho_oor h) := by
  intro C hC hr v σ K hK hT hσ kk
  refine hf C hC v σ [] _ hK (Nat.zero_le _) hT hσ fun r σ hKr hr9 hσ => ?_
  refine hg C hC v σ _ _ hKr (by simp only [ho_cs, List.map_cons, List.map_nil, List.sum_cons, List.sum_nil, ho_cat]; omega) hT hσ fun i σ hKi hi hσ => ?_
  obtain ⟨⟨hi0, hi1⟩, hKi⟩ := hKi
  refine ho_dup2 hC hd1 (ho_iaload hC hr9 hi hi0 hi1 hd2 ?_)
  refine hh C hC v σ _ _ hKi (by simp only [ho_cs, List.map_cons, List.map_nil, List.sum_cons, List.sum_nil, ho_cat]; omega) hT hσ fun x σ' hKx hx hσ' => ?_
  refine ho_ior hC hd3 ?_
  exact ho_iastore hC hr9 hi (ho_ti_in _) hi0 hi1 hd4 (kk v _ hKx hT (ho_rng_up hσ' (ho_ti_in _)))
theorem ss_pop {f : ho_E} (h : ho_SE mi T τ 0 pc p1 f) (hd : decode mi.2.1 p1 = .ok (.pop, 1)) : ho_SS mi ρ T T pc (p1 + 1) (zE f) := by
  intro C hC hr v σ K hf hT hσ kk
  refine h C hC v σ [] _ hf (Nat.zero_le _) hT hσ fun x σ hKx hx hσ => ?_
  have k := kk v σ hKx hT hσ
  obtain ⟨p, l, e, R, s, m, args, below, meth, c, dC, dI, cA, ad, A, Q, X, ρ9, Qf, nc, ns⟩ := C
  obtain ⟨he, hb, hm, ho, hts, hK, hA, hZ, hfr9, hlo9, hRc, hRs, hlk, hst0, hexc, hret, hqr, hzz⟩ := id hC
  intro hT hσ H locs ls hl hP hD hS
  exact lv_pop he hb hd (ho_cat _ _ _) (k hT hσ H locs ls hl hP hD hS)
theorem ss_ret {f : ho_E} (h : ho_SE mi T 0 0 pc p1 f) (hr9 : mi.2.2.2.2.2.1 = some .int) (hd : decode mi.2.1 p1 = .ok (.ireturn, 1)) : ho_SS mi 1 T T' pc pc' (zR f) := by
  intro C hC hr v σ K hf hT hσ kk
  refine h C hC v σ [] _ hf (Nat.zero_le _) hT hσ fun x σ hKx hx hσ => ?_
  obtain ⟨p, l, e, R, s, m, args, below, meth, c, dC, dI, cA, ad, A, Q, X, ρ9, Qf, nc, ns⟩ := C
  obtain ⟨he, hb, hm, ho, hts, hK, hA, hZ, hfr9, hlo9, hRc, hRs, hlk, hst0, hexc, hret, hqr, hzz⟩ := id hC
  intro hT hσ H locs ls hl hP hD hS
  cases (show ρ9 = 1 from hr)
  exact ho_mono hqr (W.iret (v := Int32.ofInt x) he hb (hret.trans hr9) (fun t ht hW => ⟨x, σ, rfl, hKx, Or.inr hx, ⟨hσ, by rw [ht]; exact hP, hD⟩, hS.F ht⟩) hS.2.2 hd hlk)
theorem ss_retZ {f : ho_E} (h : ho_SE mi T 0 0 pc p1 f) (hr9 : mi.2.2.2.2.2.1 = some .boolean) (hd : decode mi.2.1 p1 = .ok (.ireturn, 1)) : ho_SS mi 1 T T' pc pc' (zRZ f) := by
  intro C hC hr v σ K hf hT hσ kk
  refine h C hC v σ [] _ hf (Nat.zero_le _) hT hσ fun x σ hKx hx hσ => ?_
  have hnar : narrow .boolean (.int (Int32.ofInt x)) = .int (Int32.ofInt x) := by rcases hKx.1 with h | h <;> subst h <;> rfl
  have hKx := hKx.2
  obtain ⟨p, l, e, R, s, m, args, below, meth, c, dC, dI, cA, ad, A, Q, X, ρ9, Qf, nc, ns⟩ := C
  obtain ⟨he, hb, hm, ho, hts, hK, hA, hZ, hfr9, hlo9, hRc, hRs, hlk, hst0, hexc, hret, hqr, hzz⟩ := id hC
  intro hT hσ H locs ls hl hP hD hS
  cases (show ρ9 = 1 from hr)
  exact ho_mono hqr (W.zret (v := Int32.ofInt x) he hb (hret.trans hr9) hnar (fun t ht hW => ⟨x, σ, rfl, hKx, Or.inr hx, ⟨hσ, by rw [ht]; exact hP, hD⟩, hS.F ht⟩) hS.2.2 hd hlk)
theorem ho_char {a : Int} (h0 : 0 ≤ a) (h1 : a < 65536) : (Int32.ofInt a).toUInt32.toUInt16.toUInt32.toInt32 = Int32.ofInt a := by
  obtain ⟨n, rfl⟩ : ∃ n : Nat, a = n := ⟨a.toNat, by omega⟩
  have hn : n < 65536 := by omega
  have e : Int32.ofInt (n : Int) = Int32.ofNat n := rfl
  rw [e]
  apply Int32.toBitVec_inj.mp
  apply BitVec.eq_of_toNat_eq
  simp
  omega
theorem ss_retC {f : ho_E} (h : ho_SE mi T 0 0 pc p1 f) (hr9 : mi.2.2.2.2.2.1 = some .char) (hd : decode mi.2.1 p1 = .ok (.ireturn, 1)) : ho_SS mi 1 T T' pc pc' (zRC f) := by
  intro C hC hr v σ K hf hT hσ kk
  refine h C hC v σ [] _ hf (Nat.zero_le _) hT hσ fun x σ hKx hx hσ => ?_
  have hnar : narrow .char (.int (Int32.ofInt x)) = .int (Int32.ofInt x) := by
    show Value.int _ = _
    rw [ho_char hKx.1.1 hKx.1.2]
  have hKx := hKx.2
  obtain ⟨p, l, e, R, s, m, args, below, meth, c, dC, dI, cA, ad, A, Q, X, ρ9, Qf, nc, ns⟩ := C
  obtain ⟨he, hb, hm, ho, hts, hK, hA, hZ, hfr9, hlo9, hRc, hRs, hlk, hst0, hexc, hret, hqr, hzz⟩ := id hC
  intro hT hσ H locs ls hl hP hD hS
  cases (show ρ9 = 1 from hr)
  exact ho_mono hqr (W.zret (v := Int32.ofInt x) he hb (hret.trans hr9) hnar (fun t ht hW => ⟨x, σ, rfl, hKx, Or.inr hx, ⟨hσ, by rw [ht]; exact hP, hD⟩, hS.F ht⟩) hS.2.2 hd hlk)
theorem ss_retV (hr9 : mi.2.2.2.2.2.1 = none) (hd : decode mi.2.1 pc = .ok (.return_, 1)) : ho_SS mi 0 [] T' pc pc' zRV ∧ ho_SS mi 0 T T' pc pc' zRV := by
  have h9 : ∀ T, ho_SS mi 0 T T' pc pc' zRV := by
    intro T C hC hr v σ K hf hT hσ kk
    obtain ⟨p, l, e, R, s, m, args, below, meth, c, dC, dI, cA, ad, A, Q, X, ρ9, Qf, nc, ns⟩ := C
    obtain ⟨he, hb, hm, ho, hts, hK, hA, hZ, hfr9, hlo9, hRc, hRs, hlk, hst0, hexc, hret, hqr, hzz⟩ := id hC
    intro hT hσ H locs ls hl hP hD hS
    cases (show ρ9 = 0 from hr)
    exact ho_mono hqr (W.vret he hb (hret.trans hr9) (fun t ht hW => ⟨0, σ, rfl, hf, Or.inl rfl, ⟨hσ, by rw [ht]; exact hP, hD⟩, hS.F ht⟩) hS.2.2 hd hlk)
  exact ⟨h9 [], h9 T⟩
theorem ss_retA {f : ho_E} {n : String} (h : ho_SE mi T (τ + 1) 0 pc p1 f) (hr9 : mi.2.2.2.2.2.1 = some (.object n)) (hd : decode mi.2.1 p1 = .ok (.areturn, 1)) : ho_SS mi (τ + 2) T T' pc pc' (zR f) := by
  intro C hC hr v σ K hf hT hσ kk
  refine h C hC v σ [] _ hf (Nat.zero_le _) hT hσ fun x σ hKx hx hσ => ?_
  obtain ⟨p, l, e, R, s, m, args, below, meth, c, dC, dI, cA, ad, A, Q, X, ρ9, Qf, nc, ns⟩ := C
  obtain ⟨he, hb, hm, ho, hts, hK, hA, hZ, hfr9, hlo9, hRc, hRs, hlk, hst0, hexc, hret, hqr, hzz⟩ := id hC
  intro hT hσ H locs ls hl hP hD hS
  cases (show ρ9 = τ + 2 from hr)
  have hx0 : ho_val ad (τ + 1) x = .ref (ad x.toNat) := by unfold ho_val; rw [if_neg (by omega)]
  refine W.eq (g2 := F0 m p1 ls [.ref (ad x.toNat)]) (by show F0 m p1 ls [ho_val ad (τ + 1) x] = _; rw [hx0]) ?_
  exact ho_mono hqr (W.aret (v := .ref (ad x.toNat)) he hb (hret.trans hr9) (Or.inl ⟨n, rfl⟩) (Or.inr ⟨_, rfl⟩) (fun t ht hW => ⟨x, σ, by unfold ho_rv; rw [if_neg (by omega)]; exact congrArg (fun z => Outcome.returned (some z)) hx0.symm, hKx, Or.inr hx, ⟨hσ, by rw [ht]; exact hP, hD⟩, hS.F ht⟩) hS.2.2 hd hlk)
/-- throw new E("text"), in a method of the class itself -/
theorem ss_throw {ec ik ix ic : Nat} {text : String} (hown : mi.1 = RX6) (hzp : mi.2.2.2.2.2.2.2 = ho_plain) (hs : (ix, text) ∈ ho_STR) (hk : Cond.classLink RX6 ik (ho_ex ec) ∈ ho_TB) (hini : Cond.initialized (ho_ex ec) ∈ ho_TB) (hcls : Bundle.fit (ho_ex ec) = true) (hat : ∀ w ∈ vx_atS RX6 ic (ho_ex ec) ["java/lang/RuntimeException", "java/lang/Exception"], w ∈ ho_TB ∨ w ∈ ho_NW) (hgood : ∀ w ∈ Cond.classLink RX6 ik (ho_ex ec) :: Cond.initialized (ho_ex ec) :: vx_atS RX6 ic (ho_ex ec) ["java/lang/RuntimeException", "java/lang/Exception"], vx_ot w = true) (hfr : 6 ≤ mi.2.2.2.1) (hlo : 82 ≤ mi.2.2.2.2.1)
    (d0 : decode mi.2.1 pc = .ok (.new ik, 3)) (d3 : decode mi.2.1 (pc + 3) = .ok (.dup, 1)) (d4 : decode mi.2.1 (pc + 4) = .ok (.ldc ix, 2)) (d6 : decode mi.2.1 (pc + 6) = .ok (.invokespecial ic, 3)) (d9 : decode mi.2.1 (pc + 9) = .ok (.athrow, 1)) : ho_SS mi ρ T T' pc pc' (zT ec) := by
  intro C hC hr v σ K hf hT hσ kk
  obtain ⟨p, l, e, R, s, m, args, below, meth, c, dC, dI, cA, ad, A, Q, X, ρ9, Qf, nc, ns⟩ := C
  obtain ⟨he, hb, hm, ho, hts, hK, hA, hZ, hfr9, hlo9, hRc, hRs, hlk, hst0, hexc, hret, hqr, hzz⟩ := id hC
  intro hT hσ H locs ls hl hP hD hS
  rw [hown] at ho
  rw [hzp] at hzz
  obtain ⟨hexe, rfl, rfl, hth⟩ := hzz
  obtain ⟨sa, hstr⟩ := hZ.2.2.2 _ hs
  refine ho_mono hth (vx_throwS (rest := []) (own := RX6) (cls := ho_ex ec) (text := text) (names := ["java/lang/RuntimeException", "java/lang/Exception"]) (A := A) he hb hst0 ho hcls (by decide +kernel) (hts _ hk) (hts _ hini) hstr (fun w hw => ?_) hgood hZ.1 hZ.2.1 hS hl.1 d0 d3 d4 d6 d9 (fun x hx => (hexe x hx).elim) (by show 5 < R.frames; omega) (by show 0 + 82 ≤ R.locals; omega) (by omega) (by omega) hlk (fun t hv hz hq => ⟨ec, σ, rfl, hf, ⟨hσ, hP.kept (fun k q hk => hq q.1 (hP k q hk).lt), hD⟩, Nat.le_trans hS.1 hz, fun q h1 h2 => (hq q (Nat.lt_of_lt_of_le h1 hS.1)).trans (hS.2.1 q h1 h2)⟩) hS.2.2 (Nat.le_refl _) (Nat.le_refl _))
  rcases hat w hw with h | h
  · exact hts _ h
  · exact va_Nw.use (ho_nw_on (List.mem_filter.mp h).2) (hZ.2.2.1 _ h)
/-- throw new E("text"), in a method of the class itself -/
theorem ss_throwW {ec ik ix ic : Nat} {text : String} (hown : mi.1 = RX6) (hzp : mi.2.2.2.2.2.2.2 = ho_plain) (hs : (ix, text) ∈ ho_STR) (hk : Cond.classLink RX6 ik (ho_ex ec) ∈ ho_TB) (hini : Cond.initialized (ho_ex ec) ∈ ho_TB) (hcls : Bundle.fit (ho_ex ec) = true) (hat : ∀ w ∈ vx_atS RX6 ic (ho_ex ec) ["java/lang/RuntimeException", "java/lang/Exception"], w ∈ ho_TB ∨ w ∈ ho_NW) (hgood : ∀ w ∈ Cond.classLink RX6 ik (ho_ex ec) :: Cond.initialized (ho_ex ec) :: vx_atS RX6 ic (ho_ex ec) ["java/lang/RuntimeException", "java/lang/Exception"], vx_ot w = true) (hfr : 6 ≤ mi.2.2.2.1) (hlo : 82 ≤ mi.2.2.2.2.1)
    (d0 : decode mi.2.1 pc = .ok (.new ik, 3)) (d3 : decode mi.2.1 (pc + 3) = .ok (.dup, 1)) (d4 : decode mi.2.1 (pc + 4) = .ok (.ldc_w ix, 3)) (d6 : decode mi.2.1 (pc + 7) = .ok (.invokespecial ic, 3)) (d9 : decode mi.2.1 (pc + 10) = .ok (.athrow, 1)) : ho_SS mi ρ T T' pc pc' (zT ec) := by
  intro C hC hr v σ K hf hT hσ kk
  obtain ⟨p, l, e, R, s, m, args, below, meth, c, dC, dI, cA, ad, A, Q, X, ρ9, Qf, nc, ns⟩ := C
  obtain ⟨he, hb, hm, ho, hts, hK, hA, hZ, hfr9, hlo9, hRc, hRs, hlk, hst0, hexc, hret, hqr, hzz⟩ := id hC
  intro hT hσ H locs ls hl hP hD hS
  rw [hown] at ho
  rw [hzp] at hzz
  obtain ⟨hexe, rfl, rfl, hth⟩ := hzz
  obtain ⟨sa, hstr⟩ := hZ.2.2.2 _ hs
  refine ho_mono hth (vx_throwSW (rest := []) (own := RX6) (cls := ho_ex ec) (text := text) (names := ["java/lang/RuntimeException", "java/lang/Exception"]) (A := A) he hb hst0 ho hcls (by decide +kernel) (hts _ hk) (hts _ hini) hstr (fun w hw => ?_) hgood hZ.1 hZ.2.1 hS hl.1 d0 d3 d4 d6 d9 (fun x hx => (hexe x hx).elim) (by show 5 < R.frames; omega) (by show 0 + 82 ≤ R.locals; omega) (by omega) (by omega) hlk (fun t hv hz hq => ⟨ec, σ, rfl, hf, ⟨hσ, hP.kept (fun k q hk => hq q.1 (hP k q hk).lt), hD⟩, Nat.le_trans hS.1 hz, fun q h1 h2 => (hq q (Nat.lt_of_lt_of_le h1 hS.1)).trans (hS.2.1 q h1 h2)⟩) hS.2.2 (Nat.le_refl _) (Nat.le_refl _))
  rcases hat w hw with h | h
  · exact hts _ h
  · exact va_Nw.use (ho_nw_on (List.mem_filter.mp h).2) (hZ.2.2.1 _ h)
/-- System.arraycopy of ints -/
def zY (f g h i n : ho_E) : ho_Z := fun v σ K _ X => f v σ (fun r σ => g v σ (fun a σ => h v σ (fun q σ => i v σ (fun b σ => n v σ (fun k σ => (0 ≤ a ∧ 0 ≤ b ∧ 0 ≤ k ∧ a + k ≤ (ho_N r.toNat : Int) ∧ b + k ≤ (ho_N q.toNat : Int)) ∧ K v (fun k' j' => if k' = q.toNat then va_cpy (σ r.toNat) (σ q.toNat) a.toNat b.toNat k.toNat j' else σ k' j')) X) X) X) X) X
theorem ss_copy {f g h i n : ho_E} {idx : Nat} (hf : ho_SE mi T 1 0 pc p1 f) (hg : ho_SE mi T 0 1 p1 p2 g) (hh : ho_SE mi T 1 2 p2 p3 h) (hi : ho_SE mi T 0 3 p3 p4 i) (hn : ho_SE mi T 0 4 p4 pc' n) (hd : decode mi.2.1 pc' = .ok (.invokestatic idx, 3)) (w1 : Cond.methodLink mi.1 idx arraycopyName ∈ ho_TB) (w2 : Cond.native arraycopyName ∈ ho_TB) (w3 : Cond.static arraycopyName ∈ ho_TB) (w4 : Cond.initialized "java/lang/System" ∈ ho_TB) (hfr : 1 ≤ mi.2.2.2.1) (hlo : 30 ≤ mi.2.2.2.2.1) : ho_SS mi ρ T T pc (pc' + 3) (zY f g h i n) := by
  intro C hC hr v σ K hK hT hσ kk
  refine hf C hC v σ [] _ hK (Nat.zero_le _) hT hσ fun r σ hKr hr9 hσ => ?_
  refine hg C hC v σ _ _ hKr (by simp only [ho_cs, List.map_cons, List.map_nil, List.sum_cons, List.sum_nil, ho_cat]; omega) hT hσ fun a σ hKa ha hσ => ?_
  refine hh C hC v σ _ _ hKa (by simp only [ho_cs, List.map_cons, List.map_nil, List.sum_cons, List.sum_nil, ho_cat]; omega) hT hσ fun q σ hKq hq9 hσ => ?_
  refine hi C hC v σ _ _ hKq (by simp only [ho_cs, List.map_cons, List.map_nil, List.sum_cons, List.sum_nil, ho_cat]; omega) hT hσ fun b σ hKb hb9 hσ => ?_
  refine hn C hC v σ _ _ hKb (by simp only [ho_cs, List.map_cons, List.map_nil, List.sum_cons, List.sum_nil, ho_cat]; omega) hT hσ fun k σ hKk hk9 hσ => ?_
  obtain ⟨⟨h0, h1, h2, h3, h4⟩, hKk⟩ := hKk
  obtain ⟨hr0, hr1, hr2⟩ := ho_typS hr9 (by omega)
  obtain ⟨hq0, hq1, hq2⟩ := ho_typS hq9 (by omega)
  have ha : ho_in a := ha
  have hb9 : ho_in b := hb9
  have hk9 : ho_in k := hk9
  have hσ2 : ho_rng (fun k' j' => if k' = q.toNat then va_cpy (σ r.toNat) (σ q.toNat) a.toNat b.toNat k.toNat j' else σ k' j') := fun k' j' => by
    dsimp only
    split
    · unfold va_cpy; split
      · exact hσ _ _
      · exact hσ _ _
    · exact hσ _ _
  have kk := kk v _ hKk hT hσ2
  obtain ⟨p, l, e, R, s, m, args, below, meth, c, dC, dI, cA, ad, A, Q, X, ρ9, Qf, nc, ns⟩ := C
  obtain ⟨he, hb, hm, ho, hts, hK, hA, hZ, hfr9, hlo9, hRc, hRs, hlk, hst0, hexc, hret, hqr, hzz⟩ := id hC
  intro hT hσ H locs ls hl hP hD hS
  have hg1 := ho_W_get (cA := cA) (ad := ad) (σ := σ) hr1
  rw [ho_ce_arr (by omega), hr2] at hg1
  have hg2 := ho_W_get (cA := cA) (ad := ad) (σ := σ) hq1
  rw [ho_ce_arr (by omega), hq2] at hg2
  refine W.eq (g2 := F0 m pc' ls (.int (Int32.ofInt k) :: .int (Int32.ofInt b) :: .ref (ad q.toNat) :: .int (Int32.ofInt a) :: .ref (ad r.toNat) :: [])) rfl ?_
  have nn : ∀ z : Int, ho_in z → 0 ≤ z → ¬ Int32.ofInt z < 0 := fun z hz h0 hlt => by
    have e0 : (0 : Int32) = Int32.ofInt 0 := rfl
    rw [e0, ho_lt hz (by unfold ho_in; omega)] at hlt
    omega
  have hnw : nativeFrameWords "java/lang/System" "arraycopy" 5 ≤ 19 := by decide +kernel
  refine va_copyi (D := (dC, dI)) (cl := vwCl) (tys := ho_tys cA) (ws := ho_W cA ad σ) he hb (by rw [hl.1]) ho (hts _ w1) (hts _ w2) (hts _ w3) (hts _ w4) hK hP hD hS r.toNat q.toNat 0 0 hg1 hg2 rfl rfl rfl (sp := Int32.ofInt a) (dp := Int32.ofInt b) (n := Int32.ofInt k) (nn a ha h0) (nn b hb9 h1) (nn k hk9 h2) (by rw [ho_clamp ha, ho_clamp hk9]; omega) (by rw [ho_clamp hb9, ho_clamp hk9]; omega) (fun i hi => rfl) (by omega) (by show 0 + (nativeFrameWords "java/lang/System" "arraycopy" 5 + 11) ≤ R.locals; omega) hd (fun H1 locs1 hP1 hD1 hS1 => ?_)
  rw [ho_clamp ha, ho_clamp hb9, ho_clamp hk9] at hP1 hD1
  have e9 : (.inl (cA 0, ho_N q.toNat, .inl (va_cpy (fun j => Int32.ofInt (σ r.toNat j)) (fun j => Int32.ofInt (σ q.toNat j)) a.toNat b.toNat k.toNat)) : va_E) = ho_ce cA ad (fun k' j' => if k' = q.toNat then va_cpy (σ r.toNat) (σ q.toNat) a.toNat b.toNat k.toNat j' else σ k' j') q.toNat := by
    rw [ho_ce_arr (by omega), hq2]
    congr 4
    funext j
    simp only [if_pos]
    unfold va_cpy
    split <;> rfl
  rw [ho_W_set (σ' := fun k' j' => if k' = q.toNat then va_cpy (σ r.toNat) (σ q.toNat) a.toNat b.toNat k.toNat j' else σ k' j') e9 (fun k' h j => if_neg h)] at hP1 hD1
  exact kk hT hσ2 H1 locs1 ls hl hP1 hD1 hS1
theorem ho_lg_len (ad : Nat → Nat) (T : List Nat) (v : List Int) : (lg_sl (ho_vals ad T v)).length = (T.zip v).length := by
  unfold ho_vals lg_sl
  induction T.zip v with
  | nil => rfl
  | cons q t ih => rw [List.map_cons, List.flatMap_cons, List.length_append, ih, ho_cat]; simp; omega
theorem ho_lv_args (ad : Nat → Nat) : ∀ (T : List Nat) (v : List Int) (k i τ : Nat) (x : Int), T[i]? = some τ → v[i]? = some x → (k + i, ho_val ad τ x) ∈ lv_args k (ho_vals ad T v)
  | [], v, k, i, τ, x, h1, h2 => by cases h1
  | t :: T, [], k, i, τ, x, h1, h2 => by cases h2
  | t :: T, y :: v, k, 0, τ, x, h1, h2 => by
    cases h1; cases h2
    rw [ho_vals_cons]
    exact List.mem_cons_self
  | t :: T, y :: v, k, i + 1, τ, x, h1, h2 => by
    rw [ho_vals_cons]
    refine List.mem_cons_of_mem _ ?_
    rw [ho_cat, if_neg (by decide)]
    have h9 := ho_lv_args ad T v (k + 1) i τ x h1 h2
    rw [show k + (i + 1) = k + 1 + i by omega]
    exact h9
/-- a whole method -/
theorem ho_of {y : MethodName} {bytes : ByteArray} {maxL fr lo : Nat} {ret : Option FieldType} {f : ho_Z} {M : ho_M} (hs : ho_SS (y.cls, bytes, maxL, fr, lo, ret, (fun _ => True), ho_plain) ρ Ta T' 0 pc' f) (hy : plainName y.cls = true) (hlen : Ta.length ≤ maxL) (hM : ∀ a σ Q X, M a σ Q X → f a σ (fun _ _ => False) Q X) : ho_Met y bytes maxL ret fr lo Ta ρ M := by
  intro l dC dI cA ad A a σ Q X hl9 hT hσ hm
  refine MetFree.of_bodyS (code := bytes) (maxLocals := maxL) (ret := ret) hy ?_ ?_
  · intro args s m h hn
    obtain ⟨meth, c, h1, h2, h3, h4, h5, h6, -, -⟩ := Cond.code_spec hn (atoms_spec (ws := Cond.code y bytes maxL ret :: ho_TB) h _ List.mem_cons_self)
    exact ⟨meth, c, h1, h2, h3, h4, h5, h6⟩
  · intro p e s m args below meth c s₁ B hml hP _
    have hh0 : s₁.heap = s.heap := by rw [B.state]; rfl
    have hts := atoms_spec (ws := Cond.code y bytes maxL ret :: ho_TB) B.pre
    have ht : ∀ x ∈ c.exceptionTable.toList, False := by
      obtain ⟨meth9, c9, h1, h2, -, -, -, -, h7, -⟩ := Cond.code_spec B.named (hts _ List.mem_cons_self)
      cases Option.some.inj (h1.symm.trans B.method)
      cases Option.some.inj (h2.symm.trans (Stand.of_body B).code)
      intro x hx
      rw [Array.isEmpty_iff.mp h7] at hx
      cases hx
    obtain ⟨rfl, hA, hP, hK, hD, hZ⟩ := hP
    have hown : s.vm.findClass y.cls = some m.cls := findClass_of_methodNamed B.named
    have hCok : ho_ok (p, l, e, (headSpec (Cond.code y bytes maxL ret :: ho_TB) { frames := fr, cells := 1, slots := 6, locals := lo }).room, s, m, (ho_vals ad Ta a).toArray, below, meth, c, dC, dI, cA, ad, A, Q, X, ρ, hq_MQ below (ho_Qc dC dI cA ad A ρ Q) (ho_XC dC dI cA ad A X) (ho_vals ad Ta a).toArray s A, 0, 0) (y.cls, bytes, maxL, fr, lo, ret, (fun _ => True), ho_plain) :=
      ⟨B.exec, B.bytes, hml, hown, fun w hw => hts w (List.mem_cons_of_mem _ hw), hK, hA, hZ, Nat.le_refl _, Nat.le_refl _, Nat.le_refl _, Nat.le_refl _, B.notSynchronized, hl9,
       fun ec σ H locs q ce pc T v ls rest _ hX hat hS _ _ h1 h2 h3 => hq_out (A0 := A) (fun x hx => (ht x hx).elim) B.notSynchronized h1 h2 h3 (fun t9 ht9 hv9 => ⟨ec, σ, rfl, hX, by rw [ht9]; exact hat, hS.F ht9⟩) hS.2.2 (Nat.le_refl _) (Nat.le_refl _),
       B.returns, fun t ht => by obtain ⟨o, b1, b2, b3, b4⟩ := ht; exact ⟨o, b1, b2, Or.inl ⟨b3, b4⟩⟩, fun x hx => ht x hx, rfl, rfl, fun t ht => by
        obtain ⟨o, b1, b2, b3⟩ := ht
        refine ⟨o, b1, b2, ?_⟩
        rcases b3 with ⟨h, -⟩ | h
        · exact h.elim
        · exact Or.inr h⟩
    have hW := hs _ hCok rfl a σ (fun _ _ => False) (hM a σ Q X hm) hT hσ (fun _ _ h _ _ => h.elim) hT hσ s.heap []
    have hzl : (Ta.zip a).length = Ta.length := by rw [List.length_zip, hT.1, Nat.min_self]
    have hl := lv_entry (ho_vals ad Ta a) (n := maxL) (by rw [ho_lg_len, hzl]; exact hlen)
    have hw := hW ((lg_sl (ho_vals ad Ta a) ++ List.replicate (maxL - (lg_sl (ho_vals ad Ta a)).length) Slot.unset).toArray) ⟨by rw [hl.1, hml], hl.2.1, fun i τ x h1 h2 => by
      have h9 := hl.2.2 _ (ho_lv_args ad Ta a 0 i τ x h1 h2)
      simpa using h9⟩ hP hD va_S.rf
    obtain ⟨t, a1, o, b1, b2, b3⟩ := hw s₁ hh0 (Stand.of_body B)
    rw [← lg_entry_eq] at a1
    exact ⟨t, o, a1, b1, b2, b3⟩
end
