section
variable {mi : ho_I} {ρ : Nat} {T T' Ta : List Nat} {τ d pc p1 p2 p3 p4 pc' : Nat}
theorem se_iaload {f g : ho_E} (h : ho_SE mi T 1 d pc p1 f) (h2 : ho_SE mi T 0 (d + 1) p1 p2 g) (hd : decode mi.2.1 p2 = .ok (.iaload, 1)) : ho_SE mi T 0 d pc (p2 + 1) (eI f g) := by
  intro C hC v σ st K hf hst hT hσ kk
  refine h C hC v σ st _ hf hst hT hσ fun x σ hKx hx hσ => ?_
  obtain ⟨hx0, hx1, hx2⟩ := ho_typS hx (by omega)
  refine h2 C hC v σ _ _ hKx (by simp only [ho_cs, List.map_cons, List.sum_cons, ho_cat] at hst ⊢; omega) hT hσ fun i σ hKi hi hσ => ?_
  obtain ⟨⟨hi0, hi1⟩, hKi⟩ := hKi
  obtain ⟨p, l, e, R, s, m, args, below, meth, c, dC, dI, cA, ad, A, Q, X, ρ, Qf, nc, ns⟩ := C
  obtain ⟨he, hb, hm, ho, hts, hK, hA, hZ, hfr, hlo, hRc, hRs, hlk, hst0, hexc, hret, hqr, hzz⟩ := id hC
  intro hT hσ H locs ls hl hP hD hS
  have hg := ho_W_get (cA := cA) (ad := ad) (σ := σ) hx1
  rw [ho_ce_arr (by omega), hx2] at hg
  refine va_iald (D := (dC, dI)) (cl := vwCl) (tys := ho_tys cA) (ws := ho_W cA ad σ) he hb hK hP x.toNat 0 hg rfl (i := Int32.ofInt i) (ho_vpin hi hi0 hi1) hd ?_
  rw [ho_clamp hi]
  exact kk _ σ hKi (hσ _ _) hσ hT hσ H locs ls hl hP hD hS
theorem se_baload {f g : ho_E} (h : ho_SE mi T 2 d pc p1 f) (h2 : ho_SE mi T 0 (d + 1) p1 p2 g) (hd : decode mi.2.1 p2 = .ok (.baload, 1)) : ho_SE mi T 0 d pc (p2 + 1) (eI f g) := by
  intro C hC v σ st K hf hst hT hσ kk
  refine h C hC v σ st _ hf hst hT hσ fun x σ hKx hx hσ => ?_
  obtain ⟨hx0, hx1, hx2⟩ := ho_typS hx (by omega)
  refine h2 C hC v σ _ _ hKx (by simp only [ho_cs, List.map_cons, List.sum_cons, ho_cat] at hst ⊢; omega) hT hσ fun i σ hKi hi hσ => ?_
  obtain ⟨⟨hi0, hi1⟩, hKi⟩ := hKi
  obtain ⟨p, l, e, R, s, m, args, below, meth, c, dC, dI, cA, ad, A, Q, X, ρ, Qf, nc, ns⟩ := C
  obtain ⟨he, hb, hm, ho, hts, hK, hA, hZ, hfr, hlo, hRc, hRs, hlk, hst0, hexc, hret, hqr, hzz⟩ := id hC
  intro hT hσ H locs ls hl hP hD hS
  have hg := ho_W_get (cA := cA) (ad := ad) (σ := σ) hx1
  rw [ho_ce_arr (by omega), hx2] at hg
  refine va_zald (D := (dC, dI)) (cl := vwCl) (tys := ho_tys cA) (ws := ho_W cA ad σ) he hb hK hP x.toNat 1 hg rfl (i := Int32.ofInt i) (ho_vpin hi hi0 hi1) hd ?_
  rw [ho_clamp hi]
  exact kk _ σ hKi (hσ _ _) hσ hT hσ H locs ls hl hP hD hS
theorem se_caload {f g : ho_E} (h : ho_SE mi T 3 d pc p1 f) (h2 : ho_SE mi T 0 (d + 1) p1 p2 g) (hd : decode mi.2.1 p2 = .ok (.caload, 1)) : ho_SE mi T 0 d pc (p2 + 1) (eI f g) := by
  intro C hC v σ st K hf hst hT hσ kk
  refine h C hC v σ st _ hf hst hT hσ fun x σ hKx hx hσ => ?_
  obtain ⟨hx0, hx1, hx2⟩ := ho_typS hx (by omega)
  refine h2 C hC v σ _ _ hKx (by simp only [ho_cs, List.map_cons, List.sum_cons, ho_cat] at hst ⊢; omega) hT hσ fun i σ hKi hi hσ => ?_
  obtain ⟨⟨hi0, hi1⟩, hKi⟩ := hKi
  obtain ⟨p, l, e, R, s, m, args, below, meth, c, dC, dI, cA, ad, A, Q, X, ρ, Qf, nc, ns⟩ := C
  obtain ⟨he, hb, hm, ho, hts, hK, hA, hZ, hfr, hlo, hRc, hRs, hlk, hst0, hexc, hret, hqr, hzz⟩ := id hC
  intro hT hσ H locs ls hl hP hD hS
  have hg := ho_W_get (cA := cA) (ad := ad) (σ := σ) hx1
  rw [ho_ce_arr (by omega), hx2] at hg
  refine va_cald (D := (dC, dI)) (cl := vwCl) (tys := ho_tys cA) (ws := ho_W cA ad σ) he hb hK hP x.toNat 2 hg rfl (i := Int32.ofInt i) (ho_vpin hi hi0 hi1) hd ?_
  rw [ho_clamp hi]
  exact kk _ σ hKi (hσ _ _) hσ hT hσ H locs ls hl hP hD hS
theorem se_alen {f : ho_E} {t : Nat} (h : ho_SE mi T (t + 1) d pc p1 f) (ht : t < 3) (hd : decode mi.2.1 p1 = .ok (.arraylength, 1)) : ho_SE mi T 0 d pc (p1 + 1) (eL f) := by
  intro C hC v σ st K hf hst hT hσ kk
  refine h C hC v σ st _ hf hst hT hσ fun x σ hKx hx hσ => ?_
  obtain ⟨hx0, hx1, hx2⟩ := ho_typS hx (by omega)
  obtain ⟨p, l, e, R, s, m, args, below, meth, c, dC, dI, cA, ad, A, Q, X, ρ, Qf, nc, ns⟩ := C
  obtain ⟨he, hb, hm, ho, hts, hK, hA, hZ, hfr, hlo, hRc, hRs, hlk, hst0, hexc, hret, hqr, hzz⟩ := id hC
  intro hT hσ H locs ls hl hP hD hS
  have hg := ho_W_get (cA := cA) (ad := ad) (σ := σ) hx1
  rw [ho_ce_arr (by omega), hx2] at hg
  have hn : ho_in (ho_N x.toNat : Int) := by
    have h9 : ((List.range 55).all fun k => decide (ho_N k < 10000)) = true := by decide +kernel
    have h8 := List.all_eq_true.mp h9 x.toNat (List.mem_range.mpr hx1)
    simp only [decide_eq_true_eq] at h8
    unfold ho_in; omega
  have hty : ∃ ty, (ho_tys cA)[t]? = some (cA t, ty) := by
    match t, ht with
    | 0, _ => exact ⟨_, rfl⟩
    | 1, _ => exact ⟨_, rfl⟩
    | 2, _ => exact ⟨_, rfl⟩
  obtain ⟨ty, hty⟩ := hty
  refine va_alen (D := (dC, dI)) (cl := vwCl) (tys := ho_tys cA) (ws := ho_W cA ad σ) he hb hK hP x.toNat t hg hty (v := Int32.ofInt (ho_N x.toNat : Int)) rfl hd ?_
  exact kk _ σ hKx hn hσ hT hσ H locs ls hl hP hD hS
theorem se_iadd {f g : ho_E} (h : ho_SE mi T 0 d pc p1 f) (h2 : ho_SE mi T 0 (d + 1) p1 p2 g) (hd : decode mi.2.1 p2 = .ok (.iadd, 1)) : ho_SE mi T 0 d pc (p2 + 1) (eB ho_oadd f g) := by
  intro C hC v σ st K hf hst hT hσ kk
  refine h C hC v σ st _ hf hst hT hσ fun x σ hKx hx hσ => ?_
  refine h2 C hC v σ _ _ hKx (by simp only [ho_cs, List.map_cons, List.sum_cons, ho_cat] at hst ⊢; omega) hT hσ fun i σ hKi hi hσ => ?_
  obtain ⟨p, l, e, R, s, m, args, below, meth, c, dC, dI, cA, ad, A, Q, X, ρ, Qf, nc, ns⟩ := C
  obtain ⟨he, hb, hm, ho, hts, hK, hA, hZ, hfr, hlo, hRc, hRs, hlk, hst0, hexc, hret, hqr, hzz⟩ := id hC
  intro hT hσ H locs ls hl hP hD hS
  have e9 : Int32.ofInt x + Int32.ofInt i = Int32.ofInt (ho_oadd x i) := ho_add x i
  have hin : ho_in (ho_oadd x i) := ho_w_in _
  have h9 := kk _ σ hKi hin hσ hT hσ H locs ls hl hP hD hS
  refine lv_iadd (x := Int32.ofInt x) (y := Int32.ofInt i) he hb hd ?_
  rw [e9]
  exact h9
theorem se_isub {f g : ho_E} (h : ho_SE mi T 0 d pc p1 f) (h2 : ho_SE mi T 0 (d + 1) p1 p2 g) (hd : decode mi.2.1 p2 = .ok (.isub, 1)) : ho_SE mi T 0 d pc (p2 + 1) (eB ho_osub f g) := by
  intro C hC v σ st K hf hst hT hσ kk
  refine h C hC v σ st _ hf hst hT hσ fun x σ hKx hx hσ => ?_
  refine h2 C hC v σ _ _ hKx (by simp only [ho_cs, List.map_cons, List.sum_cons, ho_cat] at hst ⊢; omega) hT hσ fun i σ hKi hi hσ => ?_
  obtain ⟨p, l, e, R, s, m, args, below, meth, c, dC, dI, cA, ad, A, Q, X, ρ, Qf, nc, ns⟩ := C
  obtain ⟨he, hb, hm, ho, hts, hK, hA, hZ, hfr, hlo, hRc, hRs, hlk, hst0, hexc, hret, hqr, hzz⟩ := id hC
  intro hT hσ H locs ls hl hP hD hS
  have e9 : Int32.ofInt x - Int32.ofInt i = Int32.ofInt (ho_osub x i) := ho_sub x i
  have hin : ho_in (ho_osub x i) := ho_w_in _
  have h9 := kk _ σ hKi hin hσ hT hσ H locs ls hl hP hD hS
  refine lv_isub (x := Int32.ofInt x) (y := Int32.ofInt i) he hb hd ?_
  rw [e9]
  exact h9
theorem se_imul {f g : ho_E} (h : ho_SE mi T 0 d pc p1 f) (h2 : ho_SE mi T 0 (d + 1) p1 p2 g) (hd : decode mi.2.1 p2 = .ok (.imul, 1)) : ho_SE mi T 0 d pc (p2 + 1) (eB ho_omul f g) := by
  intro C hC v σ st K hf hst hT hσ kk
  refine h C hC v σ st _ hf hst hT hσ fun x σ hKx hx hσ => ?_
  refine h2 C hC v σ _ _ hKx (by simp only [ho_cs, List.map_cons, List.sum_cons, ho_cat] at hst ⊢; omega) hT hσ fun i σ hKi hi hσ => ?_
  obtain ⟨p, l, e, R, s, m, args, below, meth, c, dC, dI, cA, ad, A, Q, X, ρ, Qf, nc, ns⟩ := C
  obtain ⟨he, hb, hm, ho, hts, hK, hA, hZ, hfr, hlo, hRc, hRs, hlk, hst0, hexc, hret, hqr, hzz⟩ := id hC
  intro hT hσ H locs ls hl hP hD hS
  have e9 : Int32.ofInt x * Int32.ofInt i = Int32.ofInt (ho_omul x i) := ho_mul x i
  have hin : ho_in (ho_omul x i) := ho_w_in _
  have h9 := kk _ σ hKi hin hσ hT hσ H locs ls hl hP hD hS
  refine lv_imul (x := Int32.ofInt x) (y := Int32.ofInt i) he hb hd ?_
  rw [e9]
  exact h9
theorem se_iand {f g : ho_E} (h : ho_SE mi T 0 d pc p1 f) (h2 : ho_SE mi T 0 (d + 1) p1 p2 g) (hd : decode mi.2.1 p2 = .ok (.iand, 1)) : ho_SE mi T 0 d pc (p2 + 1) (eB ho_oand f g) := by
  intro C hC v σ st K hf hst hT hσ kk
  refine h C hC v σ st _ hf hst hT hσ fun x σ hKx hx hσ => ?_
  refine h2 C hC v σ _ _ hKx (by simp only [ho_cs, List.map_cons, List.sum_cons, ho_cat] at hst ⊢; omega) hT hσ fun i σ hKi hi hσ => ?_
  obtain ⟨p, l, e, R, s, m, args, below, meth, c, dC, dI, cA, ad, A, Q, X, ρ, Qf, nc, ns⟩ := C
  obtain ⟨he, hb, hm, ho, hts, hK, hA, hZ, hfr, hlo, hRc, hRs, hlk, hst0, hexc, hret, hqr, hzz⟩ := id hC
  intro hT hσ H locs ls hl hP hD hS
  have e9 : Int32.ofInt x &&& Int32.ofInt i = Int32.ofInt (ho_oand x i) := (ho_oi _).symm
  have hin : ho_in (ho_oand x i) := ho_ti_in _
  have h9 := kk _ σ hKi hin hσ hT hσ H locs ls hl hP hD hS
  refine lv_iand (x := Int32.ofInt x) (y := Int32.ofInt i) he hb hd ?_
  rw [e9]
  exact h9
theorem se_ior {f g : ho_E} (h : ho_SE mi T 0 d pc p1 f) (h2 : ho_SE mi T 0 (d + 1) p1 p2 g) (hd : decode mi.2.1 p2 = .ok (.ior, 1)) : ho_SE mi T 0 d pc (p2 + 1) (eB ho_oor f g) := by
  intro C hC v σ st K hf hst hT hσ kk
  refine h C hC v σ st _ hf hst hT hσ fun x σ hKx hx hσ => ?_
  refine h2 C hC v σ _ _ hKx (by simp only [ho_cs, List.map_cons, List.sum_cons, ho_cat] at hst ⊢; omega) hT hσ fun i σ hKi hi hσ => ?_
  obtain ⟨p, l, e, R, s, m, args, below, meth, c, dC, dI, cA, ad, A, Q, X, ρ, Qf, nc, ns⟩ := C
  obtain ⟨he, hb, hm, ho, hts, hK, hA, hZ, hfr, hlo, hRc, hRs, hlk, hst0, hexc, hret, hqr, hzz⟩ := id hC
  intro hT hσ H locs ls hl hP hD hS
  have e9 : Int32.ofInt x ||| Int32.ofInt i = Int32.ofInt (ho_oor x i) := (ho_oi _).symm
  have hin : ho_in (ho_oor x i) := ho_ti_in _
  have h9 := kk _ σ hKi hin hσ hT hσ H locs ls hl hP hD hS
  refine lv_ior (x := Int32.ofInt x) (y := Int32.ofInt i) he hb hd ?_
  rw [e9]
  exact h9
theorem se_ixor {f g : ho_E} (h : ho_SE mi T 0 d pc p1 f) (h2 : ho_SE mi T 0 (d + 1) p1 p2 g) (hd : decode mi.2.1 p2 = .ok (.ixor, 1)) : ho_SE mi T 0 d pc (p2 + 1) (eB ho_oxor f g) := by
  intro C hC v σ st K hf hst hT hσ kk
  refine h C hC v σ st _ hf hst hT hσ fun x σ hKx hx hσ => ?_
  refine h2 C hC v σ _ _ hKx (by simp only [ho_cs, List.map_cons, List.sum_cons, ho_cat] at hst ⊢; omega) hT hσ fun i σ hKi hi hσ => ?_
  obtain ⟨p, l, e, R, s, m, args, below, meth, c, dC, dI, cA, ad, A, Q, X, ρ, Qf, nc, ns⟩ := C
  obtain ⟨he, hb, hm, ho, hts, hK, hA, hZ, hfr, hlo, hRc, hRs, hlk, hst0, hexc, hret, hqr, hzz⟩ := id hC
  intro hT hσ H locs ls hl hP hD hS
  have e9 : Int32.ofInt x ^^^ Int32.ofInt i = Int32.ofInt (ho_oxor x i) := (ho_oi _).symm
  have hin : ho_in (ho_oxor x i) := ho_ti_in _
  have h9 := kk _ σ hKi hin hσ hT hσ H locs ls hl hP hD hS
  refine lv_ixor (x := Int32.ofInt x) (y := Int32.ofInt i) he hb hd ?_
  rw [e9]
  exact h9
theorem se_ishl {f g : ho_E} (h : ho_SE mi T 0 d pc p1 f) (h2 : ho_SE mi T 0 (d + 1) p1 p2 g) (hd : decode mi.2.1 p2 = .ok (.ishl, 1)) : ho_SE mi T 0 d pc (p2 + 1) (eB ho_oshl f g) := by
  intro C hC v σ st K hf hst hT hσ kk
  refine h C hC v σ st _ hf hst hT hσ fun x σ hKx hx hσ => ?_
  refine h2 C hC v σ _ _ hKx (by simp only [ho_cs, List.map_cons, List.sum_cons, ho_cat] at hst ⊢; omega) hT hσ fun i σ hKi hi hσ => ?_
  obtain ⟨p, l, e, R, s, m, args, below, meth, c, dC, dI, cA, ad, A, Q, X, ρ, Qf, nc, ns⟩ := C
  obtain ⟨he, hb, hm, ho, hts, hK, hA, hZ, hfr, hlo, hRc, hRs, hlk, hst0, hexc, hret, hqr, hzz⟩ := id hC
  intro hT hσ H locs ls hl hP hD hS
  have e9 : Int32.ofInt x <<< (Int32.ofInt i &&& 31) = Int32.ofInt (ho_oshl x i) := (ho_oi _).symm
  have hin : ho_in (ho_oshl x i) := ho_ti_in _
  have h9 := kk _ σ hKi hin hσ hT hσ H locs ls hl hP hD hS
  refine lv_ishl (x := Int32.ofInt x) (y := Int32.ofInt i) he hb hd ?_
  rw [e9]
  exact h9
theorem se_ishr {f g : ho_E} (h : ho_SE mi T 0 d pc p1 f) (h2 : ho_SE mi T 0 (d + 1) p1 p2 g) (hd : decode mi.2.1 p2 = .ok (.ishr, 1)) : ho_SE mi T 0 d pc (p2 + 1) (eB ho_oshr f g) := by
  intro C hC v σ st K hf hst hT hσ kk
  refine h C hC v σ st _ hf hst hT hσ fun x σ hKx hx hσ => ?_
  refine h2 C hC v σ _ _ hKx (by simp only [ho_cs, List.map_cons, List.sum_cons, ho_cat] at hst ⊢; omega) hT hσ fun i σ hKi hi hσ => ?_
  obtain ⟨p, l, e, R, s, m, args, below, meth, c, dC, dI, cA, ad, A, Q, X, ρ, Qf, nc, ns⟩ := C
  obtain ⟨he, hb, hm, ho, hts, hK, hA, hZ, hfr, hlo, hRc, hRs, hlk, hst0, hexc, hret, hqr, hzz⟩ := id hC
  intro hT hσ H locs ls hl hP hD hS
  have e9 : Int32.ofInt x >>> (Int32.ofInt i &&& 31) = Int32.ofInt (ho_oshr x i) := (ho_oi _).symm
  have hin : ho_in (ho_oshr x i) := ho_ti_in _
  have h9 := kk _ σ hKi hin hσ hT hσ H locs ls hl hP hD hS
  refine lv_ishr (x := Int32.ofInt x) (y := Int32.ofInt i) he hb hd ?_
  rw [e9]
  exact h9
theorem se_iushr {f g : ho_E} (h : ho_SE mi T 0 d pc p1 f) (h2 : ho_SE mi T 0 (d + 1) p1 p2 g) (hd : decode mi.2.1 p2 = .ok (.iushr, 1)) : ho_SE mi T 0 d pc (p2 + 1) (eB ho_oushr f g) := by
  intro C hC v σ st K hf hst hT hσ kk
  refine h C hC v σ st _ hf hst hT hσ fun x σ hKx hx hσ => ?_
  refine h2 C hC v σ _ _ hKx (by simp only [ho_cs, List.map_cons, List.sum_cons, ho_cat] at hst ⊢; omega) hT hσ fun i σ hKi hi hσ => ?_
  obtain ⟨p, l, e, R, s, m, args, below, meth, c, dC, dI, cA, ad, A, Q, X, ρ, Qf, nc, ns⟩ := C
  obtain ⟨he, hb, hm, ho, hts, hK, hA, hZ, hfr, hlo, hRc, hRs, hlk, hst0, hexc, hret, hqr, hzz⟩ := id hC
  intro hT hσ H locs ls hl hP hD hS
  have e9 : ((Int32.ofInt x).toUInt32 >>> ((Int32.ofInt i).toUInt32 &&& Int32.toUInt32 31)).toInt32 = Int32.ofInt (ho_oushr x i) := (ho_oi _).symm
  have hin : ho_in (ho_oushr x i) := ho_ti_in _
  have h9 := kk _ σ hKi hin hσ hT hσ H locs ls hl hP hD hS
  refine lv_iushr (x := Int32.ofInt x) (y := Int32.ofInt i) he hb hd e9 ?_
  skip
  exact h9
theorem se_idiv {f g : ho_E} (h : ho_SE mi T 0 d pc p1 f) (h2 : ho_SE mi T 0 (d + 1) p1 p2 g) (hd : decode mi.2.1 p2 = .ok (.idiv, 1)) : ho_SE mi T 0 d pc (p2 + 1) (eD f g) := by
  intro C hC v σ st K hf hst hT hσ kk
  refine h C hC v σ st _ hf hst hT hσ fun x σ hKx hx hσ => ?_
  refine h2 C hC v σ _ _ hKx (by simp only [ho_cs, List.map_cons, List.sum_cons, ho_cat] at hst ⊢; omega) hT hσ fun i σ hKi hi hσ => ?_
  obtain ⟨p, l, e, R, s, m, args, below, meth, c, dC, dI, cA, ad, A, Q, X, ρ, Qf, nc, ns⟩ := C
  obtain ⟨he, hb, hm, ho, hts, hK, hA, hZ, hfr, hlo, hRc, hRs, hlk, hst0, hexc, hret, hqr, hzz⟩ := id hC
  intro hT hσ H locs ls hl hP hD hS
  have hx : ho_in x := hx
  have hi : ho_in i := hi
  have h9 := kk _ σ hKi.2 (ho_w_in _) hσ hT hσ H locs ls hl hP hD hS
  refine lv_idiv (x := Int32.ofInt x) (y := Int32.ofInt i) he hb hd (fun q => hKi.1 ((ho_eq hi (by unfold ho_in; omega)).mp (q.trans rfl))) ?_
  rw [ho_div hx hi]
  exact h9
theorem ho_rem {a b : Int} (ha : ho_in a) (hb : ho_in b) : Int32.ofInt a - Int32.ofInt a / Int32.ofInt b * Int32.ofInt b = Int32.ofInt (ho_w (Int.tmod a b)) := by
  rw [ho_div ha hb, ho_mul, ho_sub, ho_ofw, ho_ofw]
  have h1 : Int.tmod a b = a - Int.tdiv a b * b := by
    have := Int.tdiv_mul_add_tmod a b
    omega
  rw [h1]
  refine Int32.toInt_inj.mp ?_
  rw [ho_ti, ho_ti]
  have h2 : ∀ t : Int, ho_w (ho_w t * b) = ho_w (t * b) := fun t => by
    have this : Int32.ofInt (ho_w (ho_w t * b)) = Int32.ofInt (ho_w (t * b)) := by rw [← ho_mul, ho_ofw, ho_mul]
    have h3 := congrArg Int32.toInt this
    rw [ho_ti, ho_ti, ho_w_eq (ho_w_in _), ho_w_eq (ho_w_in _)] at h3
    exact h3
  rw [h2]
  unfold ho_w
  omega
theorem se_irem {f g : ho_E} (h : ho_SE mi T 0 d pc p1 f) (h2 : ho_SE mi T 0 (d + 1) p1 p2 g) (hd : decode mi.2.1 p2 = .ok (.irem, 1)) : ho_SE mi T 0 d pc (p2 + 1) (eM f g) := by
  intro C hC v σ st K hf hst hT hσ kk
  refine h C hC v σ st _ hf hst hT hσ fun x σ hKx hx hσ => ?_
  refine h2 C hC v σ _ _ hKx (by simp only [ho_cs, List.map_cons, List.sum_cons, ho_cat] at hst ⊢; omega) hT hσ fun i σ hKi hi hσ => ?_
  obtain ⟨p, l, e, R, s, m, args, below, meth, c, dC, dI, cA, ad, A, Q, X, ρ, Qf, nc, ns⟩ := C
  obtain ⟨he, hb, hm, ho, hts, hK, hA, hZ, hfr, hlo, hRc, hRs, hlk, hst0, hexc, hret, hqr, hzz⟩ := id hC
  intro hT hσ H locs ls hl hP hD hS
  have hx : ho_in x := hx
  have hi : ho_in i := hi
  have h9 := kk _ σ hKi.2 (ho_w_in _) hσ hT hσ H locs ls hl hP hD hS
  refine lv_irem (x := Int32.ofInt x) (y := Int32.ofInt i) he hb hd (fun q => hKi.1 ((ho_eq hi (by unfold ho_in; omega)).mp (q.trans rfl))) ?_
  rw [ho_rem hx hi]
  exact h9
theorem se_i2c {f : ho_E} (h : ho_SE mi T 0 d pc p1 f) (hd : decode mi.2.1 p1 = .ok (.i2c, 1)) : ho_SE mi T 0 d pc (p1 + 1) (eU ho_oi2c f) := by
  intro C hC v σ st K hf hst hT hσ kk
  refine h C hC v σ st _ hf hst hT hσ fun x σ hKx hx hσ => ?_
  obtain ⟨p, l, e, R, s, m, args, below, meth, c, dC, dI, cA, ad, A, Q, X, ρ, Qf, nc, ns⟩ := C
  obtain ⟨he, hb, hm, ho, hts, hK, hA, hZ, hfr, hlo, hRc, hRs, hlk, hst0, hexc, hret, hqr, hzz⟩ := id hC
  intro hT hσ H locs ls hl hP hD hS
  have h9 := kk _ σ hKx (ho_ti_in _) hσ hT hσ H locs ls hl hP hD hS
  exact lv_i2c (x := Int32.ofInt x) he hb hd (ho_oi _).symm h9
theorem se_max {f g : ho_E} {idx : Nat} (h : ho_SE mi T 0 d pc p1 f) (h2 : ho_SE mi T 0 (d + 1) p1 p2 g) (hd : decode mi.2.1 p2 = .ok (.invokestatic idx, 3)) (w1 : Cond.methodLink mi.1 idx Lib.Math.max.name ∈ ho_TB) (w2 : Cond.static Lib.Math.max.name ∈ ho_TB) (w3 : Cond.initialized "java/lang/Math" ∈ ho_TB) (w4 : Cond.code Lib.Math.max.name Lib.Math.max.code 2 (some .int) ∈ ho_TB) (hfr : 1 ≤ mi.2.2.2.1) (hlo : d + 13 ≤ mi.2.2.2.2.1) : ho_SE mi T 0 d pc (p2 + 3) (eB ho_omax f g) := by
  intro C hC v σ st K hf hst hT hσ kk
  refine h C hC v σ st _ hf hst hT hσ fun x σ hKx hx hσ => ?_
  refine h2 C hC v σ _ _ hKx (by simp only [ho_cs, List.map_cons, List.sum_cons, ho_cat] at hst ⊢; omega) hT hσ fun i σ hKi hi hσ => ?_
  obtain ⟨p, l, e, R, s, m, args, below, meth, c, dC, dI, cA, ad, A, Q, X, ρ, Qf, nc, ns⟩ := C
  obtain ⟨he, hb, hm, ho, hts, hK, hA, hZ, hfr9, hlo9, hRc, hRs, hlk, hst0, hexc, hret, hqr, hzz⟩ := id hC
  intro hT hσ H locs ls hl hP hD hS
  have hx : ho_in x := hx
  have hi : ho_in i := hi
  have hin : ho_in (ho_omax x i) := by unfold ho_omax; split <;> assumption
  have h9 := kk _ σ hKi hin hσ hT hσ H locs ls hl hP hD hS
  unfold ho_cs at hst
  refine va_mmax (x := Int32.ofInt x) (y := Int32.ofInt i) he hb (by rw [hl.1]) ho (hts _ w1) (hts _ w2) (hts _ w3) (hts _ w4) (by omega) (by omega) (by omega) (by omega) hd ?_
  have e9 : (if Int32.ofInt x < Int32.ofInt i then Int32.ofInt i else Int32.ofInt x) = Int32.ofInt (ho_omax x i) := by
    unfold ho_omax
    simp only [ho_lt hx hi]
    split <;> rfl
  first | rw [e9] | simp only [ho_lt hx hi, ho_lt hi hx, ho_omax]
  exact h9
theorem se_min {f g : ho_E} {idx : Nat} (h : ho_SE mi T 0 d pc p1 f) (h2 : ho_SE mi T 0 (d + 1) p1 p2 g) (hd : decode mi.2.1 p2 = .ok (.invokestatic idx, 3)) (w1 : Cond.methodLink mi.1 idx Lib.Math.min.name ∈ ho_TB) (w2 : Cond.static Lib.Math.min.name ∈ ho_TB) (w3 : Cond.initialized "java/lang/Math" ∈ ho_TB) (w4 : Cond.code Lib.Math.min.name Lib.Math.min.code 2 (some .int) ∈ ho_TB) (hfr : 1 ≤ mi.2.2.2.1) (hlo : d + 13 ≤ mi.2.2.2.2.1) : ho_SE mi T 0 d pc (p2 + 3) (eB ho_omin f g) := by
  intro C hC v σ st K hf hst hT hσ kk
  refine h C hC v σ st _ hf hst hT hσ fun x σ hKx hx hσ => ?_
  refine h2 C hC v σ _ _ hKx (by simp only [ho_cs, List.map_cons, List.sum_cons, ho_cat] at hst ⊢; omega) hT hσ fun i σ hKi hi hσ => ?_
  obtain ⟨p, l, e, R, s, m, args, below, meth, c, dC, dI, cA, ad, A, Q, X, ρ, Qf, nc, ns⟩ := C
  obtain ⟨he, hb, hm, ho, hts, hK, hA, hZ, hfr9, hlo9, hRc, hRs, hlk, hst0, hexc, hret, hqr, hzz⟩ := id hC
  intro hT hσ H locs ls hl hP hD hS
  have hx : ho_in x := hx
  have hi : ho_in i := hi
  have hin : ho_in (ho_omin x i) := by unfold ho_omin; split <;> assumption
  have h9 := kk _ σ hKi hin hσ hT hσ H locs ls hl hP hD hS
  unfold ho_cs at hst
  refine va_mmin (x := Int32.ofInt x) (y := Int32.ofInt i) he hb (by rw [hl.1]) ho (hts _ w1) (hts _ w2) (hts _ w3) (hts _ w4) (by omega) (by omega) (by omega) (by omega) hd ?_
  have e9 : (if Int32.ofInt i < Int32.ofInt x then Int32.ofInt i else Int32.ofInt x) = Int32.ofInt (ho_omin x i) := by
    unfold ho_omin
    simp only [ho_lt hi hx]
    split <;> rfl
  first | rw [e9] | simp only [ho_lt hx hi, ho_lt hi hx, ho_omin]
  exact h9
theorem se_abs {f : ho_E} {idx : Nat} (h : ho_SE mi T 0 d pc p1 f) (hd : decode mi.2.1 p1 = .ok (.invokestatic idx, 3)) (w1 : Cond.methodLink mi.1 idx Lib.Math.abs.name ∈ ho_TB) (w2 : Cond.static Lib.Math.abs.name ∈ ho_TB) (w3 : Cond.initialized "java/lang/Math" ∈ ho_TB) (w4 : Cond.code Lib.Math.abs.name Lib.Math.abs.code 1 (some .int) ∈ ho_TB) (hfr : 1 ≤ mi.2.2.2.1) (hlo : d + 13 ≤ mi.2.2.2.2.1) : ho_SE mi T 0 d pc (p1 + 3) (eU ho_oabs f) := by
  intro C hC v σ st K hf hst hT hσ kk
  refine h C hC v σ st _ hf hst hT hσ fun x σ hKx hx hσ => ?_
  obtain ⟨p, l, e, R, s, m, args, below, meth, c, dC, dI, cA, ad, A, Q, X, ρ, Qf, nc, ns⟩ := C
  obtain ⟨he, hb, hm, ho, hts, hK, hA, hZ, hfr9, hlo9, hRc, hRs, hlk, hst0, hexc, hret, hqr, hzz⟩ := id hC
  intro hT hσ H locs ls hl hP hD hS
  have hx : ho_in x := hx
  have hin : ho_in (ho_oabs x) := by
    unfold ho_oabs; split
    · exact hx
    · exact ho_w_in _
  have h9 := kk _ σ hKx hin hσ hT hσ H locs ls hl hP hD hS
  unfold ho_cs at hst
  refine va_mabs (x := Int32.ofInt x) he hb (by rw [hl.1]) ho (hts _ w1) (hts _ w2) (hts _ w3) (hts _ w4) (by omega) (by omega) (by omega) (by omega) hd ?_
  have e9 : (if (0 : Int32) ≤ Int32.ofInt x then Int32.ofInt x else 0 - Int32.ofInt x) = Int32.ofInt (ho_oabs x) := by
    unfold ho_oabs
    have e0 : (0 : Int32) = Int32.ofInt 0 := rfl
    rw [e0]
    simp only [ho_le (show ho_in 0 by unfold ho_in; omega) hx]
    split
    · rfl
    · rw [ho_sub, Int.zero_sub]
  rw [e9]
  exact h9
theorem ho_go {C : ho_Cx} {v : List Int} {st : List Value} {σ : ho_S} {tgt : Nat} {off : Int} (hC : ho_ok C mi) (hd : decode mi.2.1 pc = .ok (.goto off, 3)) (ht : (pc : Int) + off = (tgt : Int)) (k : ho_P C tgt T v st σ) : ho_P C pc T v st σ := by
  obtain ⟨p, l, e, R, s, m, args, below, meth, c, dC, dI, cA, ad, A, Q, X, ρ, Qf, nc, ns⟩ := C
  obtain ⟨he, hb, hm, ho, hts, hK, hA, hZ, hfr, hlo, hRc, hRs, hlk, hst0, hexc, hret, hqr, hzz⟩ := id hC
  intro hT hσ H locs ls hl hP hD hS
  exact lv_goto he hb hd ht (k hT hσ H locs ls hl hP hD hS)
theorem se_go {f : ho_E} {tgt : Nat} {off : Int} (h : ho_SE mi T τ d pc p1 f) (hd : decode mi.2.1 p1 = .ok (.goto off, 3)) (ht : (p1 : Int) + off = (tgt : Int)) : ho_SE mi T τ d pc tgt f := fun C hC v σ st K hf hst hT hσ kk =>
  h C hC v σ st K hf hst hT hσ fun x σ hKx hx hσ => ho_go hC hd ht (kk x σ hKx hx hσ)
theorem ss_go {f : ho_Z} {tgt : Nat} {off : Int} (h : ho_SS mi ρ T T' pc p1 f) (hd : decode mi.2.1 p1 = .ok (.goto off, 3)) (ht : (p1 : Int) + off = (tgt : Int)) : ho_SS mi ρ T T' pc tgt f := fun C hC hr v σ K hf hT hσ kk =>
  h C hC hr v σ K hf hT hσ fun x σ hKx hx hσ => ho_go hC hd ht (kk x σ hKx hx hσ)
theorem sc_goT {f : ho_C} {tgt : Nat} {off : Int} (h : ho_SC mi T d pc p1 p2 f) (hd : decode mi.2.1 p1 = .ok (.goto off, 3)) (ht : (p1 : Int) + off = (tgt : Int)) : ho_SC mi T d pc tgt p2 f := fun C hC v σ st Kt Kf hf hst hT hσ kt kf =>
  h C hC v σ st Kt Kf hf hst hT hσ (fun σ hKx hσ => ho_go hC hd ht (kt σ hKx hσ)) kf
theorem sc_goF {f : ho_C} {tgt : Nat} {off : Int} (h : ho_SC mi T d pc p1 p2 f) (hd : decode mi.2.1 p2 = .ok (.goto off, 3)) (ht : (p2 : Int) + off = (tgt : Int)) : ho_SC mi T d pc p1 tgt f := fun C hC v σ st Kt Kf hf hst hT hσ kt kf =>
  h C hC v σ st Kt Kf hf hst hT hσ kt (fun σ hKx hσ => ho_go hC hd ht (kf σ hKx hσ))
theorem se_tern {c : ho_C} {f g : ho_E} (hc : ho_SC mi T d pc p1 p2 c) (hf : ho_SE mi T τ d p1 pc' f) (hg : ho_SE mi T τ d p2 pc' g) : ho_SE mi T τ d pc pc' (eT c f g) := fun C hC v σ st K h hst hT hσ kk =>
  hc C hC v σ st _ _ h hst hT hσ (fun σ hK hσ => hf C hC v σ st K hK hst hT hσ kk) (fun σ hK hσ => hg C hC v σ st K hK hst hT hσ kk)
theorem sc_and {c e : ho_C} (hc : ho_SC mi T d pc p1 p2 c) (he : ho_SC mi T d p1 p3 p2 e) : ho_SC mi T d pc p3 p2 (cAnd c e) := fun C hC v σ st Kt Kf h hst hT hσ kt kf =>
  hc C hC v σ st _ _ h hst hT hσ (fun σ hK hσ => he C hC v σ st Kt Kf hK hst hT hσ kt kf) kf
theorem sc_or {c e : ho_C} (hc : ho_SC mi T d pc p1 p2 c) (he : ho_SC mi T d p2 p1 p3 e) : ho_SC mi T d pc p1 p3 (cOr c e) := fun C hC v σ st Kt Kf h hst hT hσ kt kf =>
  hc C hC v σ st _ _ h hst hT hσ kt (fun σ hK hσ => he C hC v σ st Kt Kf hK hst hT hσ kt kf)
theorem sc_not {c : ho_C} (hc : ho_SC mi T d pc p1 p2 c) : ho_SC mi T d pc p2 p1 (cNot c) := fun C hC v σ st Kt Kf h hst hT hσ kt kf =>
  hc C hC v σ st _ _ h hst hT hσ kf kt
theorem sc_LtJ {f g : ho_E} {off : Int} {tgt : Nat} (h : ho_SE mi T 0 d pc p1 f) (h2 : ho_SE mi T 0 (d + 1) p1 p2 g) (hd : decode mi.2.1 p2 = .ok (.if_icmp .lt off, 3)) (ht : (p2 : Int) + off = (tgt : Int)) : ho_SC mi T d pc tgt (p2 + 3) (cLt f g) := by
  intro C hC v σ st Kt Kf hf hst hT hσ kt kf
  refine h C hC v σ st _ hf hst hT hσ fun x σ hKx hx hσ => ?_
  refine h2 C hC v σ _ _ hKx (by simp only [ho_cs, List.map_cons, List.sum_cons, ho_cat] at hst ⊢; omega) hT hσ fun i σ hKi hi hσ => ?_
  have hKt := fun q => kt σ (hKi.1 q) hσ
  have hKf := fun q => kf σ (hKi.2 q) hσ
  obtain ⟨p, l, e, R, s, m, args, below, meth, c, dC, dI, cA, ad, A, Q, X, ρ, Qf, nc, ns⟩ := C
  obtain ⟨he, hb, hm, ho, hts, hK, hA, hZ, hfr, hlo, hRc, hRs, hlk, hst0, hexc, hret, hqr, hzz⟩ := id hC
  intro hT hσ H locs ls hl hP hD hS
  have hx : ho_in x := hx
  have hi : ho_in i := hi
  refine lv_icmp_lt (x := Int32.ofInt x) (y := Int32.ofInt i) he hb hd ht (fun q => ?_) (fun q => ?_)
  · simp only [ho_lt hx hi, ho_lt hi hx, ho_le hx hi, ho_le hi hx, ho_eq hx hi] at q
    exact hKt (by omega) hT hσ H locs ls hl hP hD hS
  · simp only [ho_lt hx hi, ho_lt hi hx, ho_le hx hi, ho_le hi hx, ho_eq hx hi] at q
    exact hKf (by omega) hT hσ H locs ls hl hP hD hS
theorem sc_LtJ0 {f : ho_E} {off : Int} {tgt : Nat} (h : ho_SE mi T 0 d pc p1 f) (hd : decode mi.2.1 p1 = .ok (.ifCond .lt off, 3)) (ht : (p1 : Int) + off = (tgt : Int)) : ho_SC mi T d pc tgt (p1 + 3) (cLt f (eC 0)) := by
  intro C hC v σ st Kt Kf hf hst hT hσ kt kf
  refine h C hC v σ st _ hf hst hT hσ fun x σ hKx hx hσ => ?_
  obtain ⟨i, hi9⟩ : ∃ i : Int, i = 0 := ⟨0, rfl⟩
  have hi : ho_in i := by subst hi9; unfold ho_in; omega
  have hKi := hKx
  have e0 : (0 : Int32) = Int32.ofInt i := by subst hi9; rfl
  simp only [eC] at hKi
  rw [← hi9] at hKi
  have hKt := fun q => kt σ (hKi.1 q) hσ
  have hKf := fun q => kf σ (hKi.2 q) hσ
  obtain ⟨p, l, e, R, s, m, args, below, meth, c, dC, dI, cA, ad, A, Q, X, ρ, Qf, nc, ns⟩ := C
  obtain ⟨he, hb, hm, ho, hts, hK, hA, hZ, hfr, hlo, hRc, hRs, hlk, hst0, hexc, hret, hqr, hzz⟩ := id hC
  intro hT hσ H locs ls hl hP hD hS
  have hx : ho_in x := hx
  have hi : ho_in i := hi
  refine lv_if_lt (x := Int32.ofInt x) he hb hd ht (fun q => ?_) (fun q => ?_)
  all_goals rw [e0] at q
  · simp only [ho_lt hx hi, ho_lt hi hx, ho_le hx hi, ho_le hi hx, ho_eq hx hi] at q
    exact hKt (by omega) hT hσ H locs ls hl hP hD hS
  · simp only [ho_lt hx hi, ho_lt hi hx, ho_le hx hi, ho_le hi hx, ho_eq hx hi] at q
    exact hKf (by omega) hT hσ H locs ls hl hP hD hS
theorem sc_LtN {f g : ho_E} {off : Int} {tgt : Nat} (h : ho_SE mi T 0 d pc p1 f) (h2 : ho_SE mi T 0 (d + 1) p1 p2 g) (hd : decode mi.2.1 p2 = .ok (.if_icmp .ge off, 3)) (ht : (p2 : Int) + off = (tgt : Int)) : ho_SC mi T d pc (p2 + 3) tgt (cLt f g) := by
  intro C hC v σ st Kt Kf hf hst hT hσ kt kf
  refine h C hC v σ st _ hf hst hT hσ fun x σ hKx hx hσ => ?_
  refine h2 C hC v σ _ _ hKx (by simp only [ho_cs, List.map_cons, List.sum_cons, ho_cat] at hst ⊢; omega) hT hσ fun i σ hKi hi hσ => ?_
  have hKt := fun q => kt σ (hKi.1 q) hσ
  have hKf := fun q => kf σ (hKi.2 q) hσ
  obtain ⟨p, l, e, R, s, m, args, below, meth, c, dC, dI, cA, ad, A, Q, X, ρ, Qf, nc, ns⟩ := C
  obtain ⟨he, hb, hm, ho, hts, hK, hA, hZ, hfr, hlo, hRc, hRs, hlk, hst0, hexc, hret, hqr, hzz⟩ := id hC
  intro hT hσ H locs ls hl hP hD hS
  have hx : ho_in x := hx
  have hi : ho_in i := hi
  refine lv_icmp_ge (x := Int32.ofInt x) (y := Int32.ofInt i) he hb hd ht (fun q => ?_) (fun q => ?_)
  · simp only [ho_lt hx hi, ho_lt hi hx, ho_le hx hi, ho_le hi hx, ho_eq hx hi] at q
    exact hKf (by omega) hT hσ H locs ls hl hP hD hS
  · simp only [ho_lt hx hi, ho_lt hi hx, ho_le hx hi, ho_le hi hx, ho_eq hx hi] at q
    exact hKt (by omega) hT hσ H locs ls hl hP hD hS
theorem sc_LtN0 {f : ho_E} {off : Int} {tgt : Nat} (h : ho_SE mi T 0 d pc p1 f) (hd : decode mi.2.1 p1 = .ok (.ifCond .ge off, 3)) (ht : (p1 : Int) + off = (tgt : Int)) : ho_SC mi T d pc (p1 + 3) tgt (cLt f (eC 0)) := by
  intro C hC v σ st Kt Kf hf hst hT hσ kt kf
  refine h C hC v σ st _ hf hst hT hσ fun x σ hKx hx hσ => ?_
  obtain ⟨i, hi9⟩ : ∃ i : Int, i = 0 := ⟨0, rfl⟩
  have hi : ho_in i := by subst hi9; unfold ho_in; omega
  have hKi := hKx
  have e0 : (0 : Int32) = Int32.ofInt i := by subst hi9; rfl
  simp only [eC] at hKi
  rw [← hi9] at hKi
  have hKt := fun q => kt σ (hKi.1 q) hσ
  have hKf := fun q => kf σ (hKi.2 q) hσ
  obtain ⟨p, l, e, R, s, m, args, below, meth, c, dC, dI, cA, ad, A, Q, X, ρ, Qf, nc, ns⟩ := C
  obtain ⟨he, hb, hm, ho, hts, hK, hA, hZ, hfr, hlo, hRc, hRs, hlk, hst0, hexc, hret, hqr, hzz⟩ := id hC
  intro hT hσ H locs ls hl hP hD hS
  have hx : ho_in x := hx
  have hi : ho_in i := hi
  refine lv_if_ge (x := Int32.ofInt x) he hb hd ht (fun q => ?_) (fun q => ?_)
  all_goals rw [e0] at q
  · simp only [ho_lt hx hi, ho_lt hi hx, ho_le hx hi, ho_le hi hx, ho_eq hx hi] at q
    exact hKf (by omega) hT hσ H locs ls hl hP hD hS
  · simp only [ho_lt hx hi, ho_lt hi hx, ho_le hx hi, ho_le hi hx, ho_eq hx hi] at q
    exact hKt (by omega) hT hσ H locs ls hl hP hD hS
theorem sc_LeJ {f g : ho_E} {off : Int} {tgt : Nat} (h : ho_SE mi T 0 d pc p1 f) (h2 : ho_SE mi T 0 (d + 1) p1 p2 g) (hd : decode mi.2.1 p2 = .ok (.if_icmp .le off, 3)) (ht : (p2 : Int) + off = (tgt : Int)) : ho_SC mi T d pc tgt (p2 + 3) (cLe f g) := by
  intro C hC v σ st Kt Kf hf hst hT hσ kt kf
  refine h C hC v σ st _ hf hst hT hσ fun x σ hKx hx hσ => ?_
  refine h2 C hC v σ _ _ hKx (by simp only [ho_cs, List.map_cons, List.sum_cons, ho_cat] at hst ⊢; omega) hT hσ fun i σ hKi hi hσ => ?_
  have hKt := fun q => kt σ (hKi.1 q) hσ
  have hKf := fun q => kf σ (hKi.2 q) hσ
  obtain ⟨p, l, e, R, s, m, args, below, meth, c, dC, dI, cA, ad, A, Q, X, ρ, Qf, nc, ns⟩ := C
  obtain ⟨he, hb, hm, ho, hts, hK, hA, hZ, hfr, hlo, hRc, hRs, hlk, hst0, hexc, hret, hqr, hzz⟩ := id hC
  intro hT hσ H locs ls hl hP hD hS
  have hx : ho_in x := hx
  have hi : ho_in i := hi
  refine lv_icmp_le (x := Int32.ofInt x) (y := Int32.ofInt i) he hb hd ht (fun q => ?_) (fun q => ?_)
  · simp only [ho_lt hx hi, ho_lt hi hx, ho_le hx hi, ho_le hi hx, ho_eq hx hi] at q
    exact hKt (by omega) hT hσ H locs ls hl hP hD hS
  · simp only [ho_lt hx hi, ho_lt hi hx, ho_le hx hi, ho_le hi hx, ho_eq hx hi] at q
    exact hKf (by omega) hT hσ H locs ls hl hP hD hS
theorem sc_LeJ0 {f : ho_E} {off : Int} {tgt : Nat} (h : ho_SE mi T 0 d pc p1 f) (hd : decode mi.2.1 p1 = .ok (.ifCond .le off, 3)) (ht : (p1 : Int) + off = (tgt : Int)) : ho_SC mi T d pc tgt (p1 + 3) (cLe f (eC 0)) := by
  intro C hC v σ st Kt Kf hf hst hT hσ kt kf
  refine h C hC v σ st _ hf hst hT hσ fun x σ hKx hx hσ => ?_
  obtain ⟨i, hi9⟩ : ∃ i : Int, i = 0 := ⟨0, rfl⟩
  have hi : ho_in i := by subst hi9; unfold ho_in; omega
  have hKi := hKx
  have e0 : (0 : Int32) = Int32.ofInt i := by subst hi9; rfl
  simp only [eC] at hKi
  rw [← hi9] at hKi
  have hKt := fun q => kt σ (hKi.1 q) hσ
  have hKf := fun q => kf σ (hKi.2 q) hσ
  obtain ⟨p, l, e, R, s, m, args, below, meth, c, dC, dI, cA, ad, A, Q, X, ρ, Qf, nc, ns⟩ := C
  obtain ⟨he, hb, hm, ho, hts, hK, hA, hZ, hfr, hlo, hRc, hRs, hlk, hst0, hexc, hret, hqr, hzz⟩ := id hC
  intro hT hσ H locs ls hl hP hD hS
  have hx : ho_in x := hx
  have hi : ho_in i := hi
  refine lv_if_le (x := Int32.ofInt x) he hb hd ht (fun q => ?_) (fun q => ?_)
  all_goals rw [e0] at q
  · simp only [ho_lt hx hi, ho_lt hi hx, ho_le hx hi, ho_le hi hx, ho_eq hx hi] at q
    exact hKt (by omega) hT hσ H locs ls hl hP hD hS
  · simp only [ho_lt hx hi, ho_lt hi hx, ho_le hx hi, ho_le hi hx, ho_eq hx hi] at q
    exact hKf (by omega) hT hσ H locs ls hl hP hD hS
theorem sc_LeN {f g : ho_E} {off : Int} {tgt : Nat} (h : ho_SE mi T 0 d pc p1 f) (h2 : ho_SE mi T 0 (d + 1) p1 p2 g) (hd : decode mi.2.1 p2 = .ok (.if_icmp .gt off, 3)) (ht : (p2 : Int) + off = (tgt : Int)) : ho_SC mi T d pc (p2 + 3) tgt (cLe f g) := by
  intro C hC v σ st Kt Kf hf hst hT hσ kt kf
  refine h C hC v σ st _ hf hst hT hσ fun x σ hKx hx hσ => ?_
  refine h2 C hC v σ _ _ hKx (by simp only [ho_cs, List.map_cons, List.sum_cons, ho_cat] at hst ⊢; omega) hT hσ fun i σ hKi hi hσ => ?_
  have hKt := fun q => kt σ (hKi.1 q) hσ
  have hKf := fun q => kf σ (hKi.2 q) hσ
  obtain ⟨p, l, e, R, s, m, args, below, meth, c, dC, dI, cA, ad, A, Q, X, ρ, Qf, nc, ns⟩ := C
  obtain ⟨he, hb, hm, ho, hts, hK, hA, hZ, hfr, hlo, hRc, hRs, hlk, hst0, hexc, hret, hqr, hzz⟩ := id hC
  intro hT hσ H locs ls hl hP hD hS
  have hx : ho_in x := hx
  have hi : ho_in i := hi
  refine lv_icmp_gt (x := Int32.ofInt x) (y := Int32.ofInt i) he hb hd ht (fun q => ?_) (fun q => ?_)
  · simp only [ho_lt hx hi, ho_lt hi hx, ho_le hx hi, ho_le hi hx, ho_eq hx hi] at q
    exact hKf (by omega) hT hσ H locs ls hl hP hD hS
  · simp only [ho_lt hx hi, ho_lt hi hx, ho_le hx hi, ho_le hi hx, ho_eq hx hi] at q
    exact hKt (by omega) hT hσ H locs ls hl hP hD hS
theorem sc_LeN0 {f : ho_E} {off : Int} {tgt : Nat} (h : ho_SE mi T 0 d pc p1 f) (hd : decode mi.2.1 p1 = .ok (.ifCond .gt off, 3)) (ht : (p1 : Int) + off = (tgt : Int)) : ho_SC mi T d pc (p1 + 3) tgt (cLe f (eC 0)) := by
  intro C hC v σ st Kt Kf hf hst hT hσ kt kf
  refine h C hC v σ st _ hf hst hT hσ fun x σ hKx hx hσ => ?_
  obtain ⟨i, hi9⟩ : ∃ i : Int, i = 0 := ⟨0, rfl⟩
  have hi : ho_in i := by subst hi9; unfold ho_in; omega
  have hKi := hKx
  have e0 : (0 : Int32) = Int32.ofInt i := by subst hi9; rfl
  simp only [eC] at hKi
  rw [← hi9] at hKi
  have hKt := fun q => kt σ (hKi.1 q) hσ
  have hKf := fun q => kf σ (hKi.2 q) hσ
  obtain ⟨p, l, e, R, s, m, args, below, meth, c, dC, dI, cA, ad, A, Q, X, ρ, Qf, nc, ns⟩ := C
  obtain ⟨he, hb, hm, ho, hts, hK, hA, hZ, hfr, hlo, hRc, hRs, hlk, hst0, hexc, hret, hqr, hzz⟩ := id hC
  intro hT hσ H locs ls hl hP hD hS
  have hx : ho_in x := hx
  have hi : ho_in i := hi
  refine lv_if_gt (x := Int32.ofInt x) he hb hd ht (fun q => ?_) (fun q => ?_)
  all_goals rw [e0] at q
  · simp only [ho_lt hx hi, ho_lt hi hx, ho_le hx hi, ho_le hi hx, ho_eq hx hi] at q
    exact hKf (by omega) hT hσ H locs ls hl hP hD hS
  · simp only [ho_lt hx hi, ho_lt hi hx, ho_le hx hi, ho_le hi hx, ho_eq hx hi] at q
    exact hKt (by omega) hT hσ H locs ls hl hP hD hS
theorem sc_GtJ {f g : ho_E} {off : Int} {tgt : Nat} (h : ho_SE mi T 0 d pc p1 f) (h2 : ho_SE mi T 0 (d + 1) p1 p2 g) (hd : decode mi.2.1 p2 = .ok (.if_icmp .gt off, 3)) (ht : (p2 : Int) + off = (tgt : Int)) : ho_SC mi T d pc tgt (p2 + 3) (cGt f g) := by
  intro C hC v σ st Kt Kf hf hst hT hσ kt kf
  refine h C hC v σ st _ hf hst hT hσ fun x σ hKx hx hσ => ?_
  refine h2 C hC v σ _ _ hKx (by simp only [ho_cs, List.map_cons, List.sum_cons, ho_cat] at hst ⊢; omega) hT hσ fun i σ hKi hi hσ => ?_
  have hKt := fun q => kt σ (hKi.1 q) hσ
  have hKf := fun q => kf σ (hKi.2 q) hσ
  obtain ⟨p, l, e, R, s, m, args, below, meth, c, dC, dI, cA, ad, A, Q, X, ρ, Qf, nc, ns⟩ := C
  obtain ⟨he, hb, hm, ho, hts, hK, hA, hZ, hfr, hlo, hRc, hRs, hlk, hst0, hexc, hret, hqr, hzz⟩ := id hC
  intro hT hσ H locs ls hl hP hD hS
  have hx : ho_in x := hx
  have hi : ho_in i := hi
  refine lv_icmp_gt (x := Int32.ofInt x) (y := Int32.ofInt i) he hb hd ht (fun q => ?_) (fun q => ?_)
  · simp only [ho_lt hx hi, ho_lt hi hx, ho_le hx hi, ho_le hi hx, ho_eq hx hi] at q
    exact hKt (by omega) hT hσ H locs ls hl hP hD hS
  · simp only [ho_lt hx hi, ho_lt hi hx, ho_le hx hi, ho_le hi hx, ho_eq hx hi] at q
    exact hKf (by omega) hT hσ H locs ls hl hP hD hS
theorem sc_GtJ0 {f : ho_E} {off : Int} {tgt : Nat} (h : ho_SE mi T 0 d pc p1 f) (hd : decode mi.2.1 p1 = .ok (.ifCond .gt off, 3)) (ht : (p1 : Int) + off = (tgt : Int)) : ho_SC mi T d pc tgt (p1 + 3) (cGt f (eC 0)) := by
  intro C hC v σ st Kt Kf hf hst hT hσ kt kf
  refine h C hC v σ st _ hf hst hT hσ fun x σ hKx hx hσ => ?_
  obtain ⟨i, hi9⟩ : ∃ i : Int, i = 0 := ⟨0, rfl⟩
  have hi : ho_in i := by subst hi9; unfold ho_in; omega
  have hKi := hKx
  have e0 : (0 : Int32) = Int32.ofInt i := by subst hi9; rfl
  simp only [eC] at hKi
  rw [← hi9] at hKi
  have hKt := fun q => kt σ (hKi.1 q) hσ
  have hKf := fun q => kf σ (hKi.2 q) hσ
  obtain ⟨p, l, e, R, s, m, args, below, meth, c, dC, dI, cA, ad, A, Q, X, ρ, Qf, nc, ns⟩ := C
  obtain ⟨he, hb, hm, ho, hts, hK, hA, hZ, hfr, hlo, hRc, hRs, hlk, hst0, hexc, hret, hqr, hzz⟩ := id hC
  intro hT hσ H locs ls hl hP hD hS
  have hx : ho_in x := hx
  have hi : ho_in i := hi
  refine lv_if_gt (x := Int32.ofInt x) he hb hd ht (fun q => ?_) (fun q => ?_)
  all_goals rw [e0] at q
  · simp only [ho_lt hx hi, ho_lt hi hx, ho_le hx hi, ho_le hi hx, ho_eq hx hi] at q
    exact hKt (by omega) hT hσ H locs ls hl hP hD hS
  · simp only [ho_lt hx hi, ho_lt hi hx, ho_le hx hi, ho_le hi hx, ho_eq hx hi] at q
    exact hKf (by omega) hT hσ H locs ls hl hP hD hS
theorem sc_GtN {f g : ho_E} {off : Int} {tgt : Nat} (h : ho_SE mi T 0 d pc p1 f) (h2 : ho_SE mi T 0 (d + 1) p1 p2 g) (hd : decode mi.2.1 p2 = .ok (.if_icmp .le off, 3)) (ht : (p2 : Int) + off = (tgt : Int)) : ho_SC mi T d pc (p2 + 3) tgt (cGt f g) := by
  intro C hC v σ st Kt Kf hf hst hT hσ kt kf
  refine h C hC v σ st _ hf hst hT hσ fun x σ hKx hx hσ => ?_
  refine h2 C hC v σ _ _ hKx (by simp only [ho_cs, List.map_cons, List.sum_cons, ho_cat] at hst ⊢; omega) hT hσ fun i σ hKi hi hσ => ?_
  have hKt := fun q => kt σ (hKi.1 q) hσ
  have hKf := fun q => kf σ (hKi.2 q) hσ
  obtain ⟨p, l, e, R, s, m, args, below, meth, c, dC, dI, cA, ad, A, Q, X, ρ, Qf, nc, ns⟩ := C
  obtain ⟨he, hb, hm, ho, hts, hK, hA, hZ, hfr, hlo, hRc, hRs, hlk, hst0, hexc, hret, hqr, hzz⟩ := id hC
  intro hT hσ H locs ls hl hP hD hS
  have hx : ho_in x := hx
  have hi : ho_in i := hi
  refine lv_icmp_le (x := Int32.ofInt x) (y := Int32.ofInt i) he hb hd ht (fun q => ?_) (fun q => ?_)
  · simp only [ho_lt hx hi, ho_lt hi hx, ho_le hx hi, ho_le hi hx, ho_eq hx hi] at q
    exact hKf (by omega) hT hσ H locs ls hl hP hD hS
  · simp only [ho_lt hx hi, ho_lt hi hx, ho_le hx hi, ho_le hi hx, ho_eq hx hi] at q
    exact hKt (by omega) hT hσ H locs ls hl hP hD hS
theorem sc_GtN0 {f : ho_E} {off : Int} {tgt : Nat} (h : ho_SE mi T 0 d pc p1 f) (hd : decode mi.2.1 p1 = .ok (.ifCond .le off, 3)) (ht : (p1 : Int) + off = (tgt : Int)) : ho_SC mi T d pc (p1 + 3) tgt (cGt f (eC 0)) := by
  intro C hC v σ st Kt Kf hf hst hT hσ kt kf
  refine h C hC v σ st _ hf hst hT hσ fun x σ hKx hx hσ => ?_
  obtain ⟨i, hi9⟩ : ∃ i : Int, i = 0 := ⟨0, rfl⟩
  have hi : ho_in i := by subst hi9; unfold ho_in; omega
  have hKi := hKx
  have e0 : (0 : Int32) = Int32.ofInt i := by subst hi9; rfl
  simp only [eC] at hKi
  rw [← hi9] at hKi
  have hKt := fun q => kt σ (hKi.1 q) hσ
  have hKf := fun q => kf σ (hKi.2 q) hσ
  obtain ⟨p, l, e, R, s, m, args, below, meth, c, dC, dI, cA, ad, A, Q, X, ρ, Qf, nc, ns⟩ := C
  obtain ⟨he, hb, hm, ho, hts, hK, hA, hZ, hfr, hlo, hRc, hRs, hlk, hst0, hexc, hret, hqr, hzz⟩ := id hC
  intro hT hσ H locs ls hl hP hD hS
  have hx : ho_in x := hx
  have hi : ho_in i := hi
  refine lv_if_le (x := Int32.ofInt x) he hb hd ht (fun q => ?_) (fun q => ?_)
  all_goals rw [e0] at q
  · simp only [ho_lt hx hi, ho_lt hi hx, ho_le hx hi, ho_le hi hx, ho_eq hx hi] at q
    exact hKf (by omega) hT hσ H locs ls hl hP hD hS
  · simp only [ho_lt hx hi, ho_lt hi hx, ho_le hx hi, ho_le hi hx, ho_eq hx hi] at q
    exact hKt (by omega) hT hσ H locs ls hl hP hD hS
theorem sc_GeJ {f g : ho_E} {off : Int} {tgt : Nat} (h : ho_SE mi T 0 d pc p1 f) (h2 : ho_SE mi T 0 (d + 1) p1 p2 g) (hd : decode mi.2.1 p2 = .ok (.if_icmp .ge off, 3)) (ht : (p2 : Int) + off = (tgt : Int)) : ho_SC mi T d pc tgt (p2 + 3) (cGe f g) := by
  intro C hC v σ st Kt Kf hf hst hT hσ kt kf
  refine h C hC v σ st _ hf hst hT hσ fun x σ hKx hx hσ => ?_
  refine h2 C hC v σ _ _ hKx (by simp only [ho_cs, List.map_cons, List.sum_cons, ho_cat] at hst ⊢; omega) hT hσ fun i σ hKi hi hσ => ?_
  have hKt := fun q => kt σ (hKi.1 q) hσ
  have hKf := fun q => kf σ (hKi.2 q) hσ
  obtain ⟨p, l, e, R, s, m, args, below, meth, c, dC, dI, cA, ad, A, Q, X, ρ, Qf, nc, ns⟩ := C
  obtain ⟨he, hb, hm, ho, hts, hK, hA, hZ, hfr, hlo, hRc, hRs, hlk, hst0, hexc, hret, hqr, hzz⟩ := id hC
  intro hT hσ H locs ls hl hP hD hS
  have hx : ho_in x := hx
  have hi : ho_in i := hi
  refine lv_icmp_ge (x := Int32.ofInt x) (y := Int32.ofInt i) he hb hd ht (fun q => ?_) (fun q => ?_)
  · simp only [ho_lt hx hi, ho_lt hi hx, ho_le hx hi, ho_le hi hx, ho_eq hx hi] at q
    exact hKt (by omega) hT hσ H locs ls hl hP hD hS
  · simp only [ho_lt hx hi, ho_lt hi hx, ho_le hx hi, ho_le hi hx, ho_eq hx hi] at q
    exact hKf (by omega) hT hσ H locs ls hl hP hD hS
theorem sc_GeJ0 {f : ho_E} {off : Int} {tgt : Nat} (h : ho_SE mi T 0 d pc p1 f) (hd : decode mi.2.1 p1 = .ok (.ifCond .ge off, 3)) (ht : (p1 : Int) + off = (tgt : Int)) : ho_SC mi T d pc tgt (p1 + 3) (cGe f (eC 0)) := by
  intro C hC v σ st Kt Kf hf hst hT hσ kt kf
  refine h C hC v σ st _ hf hst hT hσ fun x σ hKx hx hσ => ?_
  obtain ⟨i, hi9⟩ : ∃ i : Int, i = 0 := ⟨0, rfl⟩
  have hi : ho_in i := by subst hi9; unfold ho_in; omega
  have hKi := hKx
  have e0 : (0 : Int32) = Int32.ofInt i := by subst hi9; rfl
  simp only [eC] at hKi
  rw [← hi9] at hKi
  have hKt := fun q => kt σ (hKi.1 q) hσ
  have hKf := fun q => kf σ (hKi.2 q) hσ
  obtain ⟨p, l, e, R, s, m, args, below, meth, c, dC, dI, cA, ad, A, Q, X, ρ, Qf, nc, ns⟩ := C
  obtain ⟨he, hb, hm, ho, hts, hK, hA, hZ, hfr, hlo, hRc, hRs, hlk, hst0, hexc, hret, hqr, hzz⟩ := id hC
  intro hT hσ H locs ls hl hP hD hS
  have hx : ho_in x := hx
  have hi : ho_in i := hi
  refine lv_if_ge (x := Int32.ofInt x) he hb hd ht (fun q => ?_) (fun q => ?_)
  all_goals rw [e0] at q
  · simp only [ho_lt hx hi, ho_lt hi hx, ho_le hx hi, ho_le hi hx, ho_eq hx hi] at q
    exact hKt (by omega) hT hσ H locs ls hl hP hD hS
  · simp only [ho_lt hx hi, ho_lt hi hx, ho_le hx hi, ho_le hi hx, ho_eq hx hi] at q
    exact hKf (by omega) hT hσ H locs ls hl hP hD hS
theorem sc_GeN {f g : ho_E} {off : Int} {tgt : Nat} (h : ho_SE mi T 0 d pc p1 f) (h2 : ho_SE mi T 0 (d + 1) p1 p2 g) (hd : decode mi.2.1 p2 = .ok (.if_icmp .lt off, 3)) (ht : (p2 : Int) + off = (tgt : Int)) : ho_SC mi T d pc (p2 + 3) tgt (cGe f g) := by
  intro C hC v σ st Kt Kf hf hst hT hσ kt kf
  refine h C hC v σ st _ hf hst hT hσ fun x σ hKx hx hσ => ?_
  refine h2 C hC v σ _ _ hKx (by simp only [ho_cs, List.map_cons, List.sum_cons, ho_cat] at hst ⊢; omega) hT hσ fun i σ hKi hi hσ => ?_
  have hKt := fun q => kt σ (hKi.1 q) hσ
  have hKf := fun q => kf σ (hKi.2 q) hσ
  obtain ⟨p, l, e, R, s, m, args, below, meth, c, dC, dI, cA, ad, A, Q, X, ρ, Qf, nc, ns⟩ := C
  obtain ⟨he, hb, hm, ho, hts, hK, hA, hZ, hfr, hlo, hRc, hRs, hlk, hst0, hexc, hret, hqr, hzz⟩ := id hC
  intro hT hσ H locs ls hl hP hD hS
  have hx : ho_in x := hx
  have hi : ho_in i := hi
  refine lv_icmp_lt (x := Int32.ofInt x) (y := Int32.ofInt i) he hb hd ht (fun q => ?_) (fun q => ?_)
  · simp only [ho_lt hx hi, ho_lt hi hx, ho_le hx hi, ho_le hi hx, ho_eq hx hi] at q
    exact hKf (by omega) hT hσ H locs ls hl hP hD hS
  · simp only [ho_lt hx hi, ho_lt hi hx, ho_le hx hi, ho_le hi hx, ho_eq hx hi] at q
    exact hKt (by omega) hT hσ H locs ls hl hP hD hS
theorem sc_GeN0 {f : ho_E} {off : Int} {tgt : Nat} (h : ho_SE mi T 0 d pc p1 f) (hd : decode mi.2.1 p1 = .ok (.ifCond .lt off, 3)) (ht : (p1 : Int) + off = (tgt : Int)) : ho_SC mi T d pc (p1 + 3) tgt (cGe f (eC 0)) := by
  intro C hC v σ st Kt Kf hf hst hT hσ kt kf
  refine h C hC v σ st _ hf hst hT hσ fun x σ hKx hx hσ => ?_
  obtain ⟨i, hi9⟩ : ∃ i : Int, i = 0 := ⟨0, rfl⟩
  have hi : ho_in i := by subst hi9; unfold ho_in; omega
  have hKi := hKx
  have e0 : (0 : Int32) = Int32.ofInt i := by subst hi9; rfl
  simp only [eC] at hKi
  rw [← hi9] at hKi
  have hKt := fun q => kt σ (hKi.1 q) hσ
  have hKf := fun q => kf σ (hKi.2 q) hσ
  obtain ⟨p, l, e, R, s, m, args, below, meth, c, dC, dI, cA, ad, A, Q, X, ρ, Qf, nc, ns⟩ := C
  obtain ⟨he, hb, hm, ho, hts, hK, hA, hZ, hfr, hlo, hRc, hRs, hlk, hst0, hexc, hret, hqr, hzz⟩ := id hC
  intro hT hσ H locs ls hl hP hD hS
  have hx : ho_in x := hx
  have hi : ho_in i := hi
  refine lv_if_lt (x := Int32.ofInt x) he hb hd ht (fun q => ?_) (fun q => ?_)
  all_goals rw [e0] at q
  · simp only [ho_lt hx hi, ho_lt hi hx, ho_le hx hi, ho_le hi hx, ho_eq hx hi] at q
    exact hKf (by omega) hT hσ H locs ls hl hP hD hS
  · simp only [ho_lt hx hi, ho_lt hi hx, ho_le hx hi, ho_le hi hx, ho_eq hx hi] at q
    exact hKt (by omega) hT hσ H locs ls hl hP hD hS
theorem sc_EqJ {f g : ho_E} {off : Int} {tgt : Nat} (h : ho_SE mi T 0 d pc p1 f) (h2 : ho_SE mi T 0 (d + 1) p1 p2 g) (hd : decode mi.2.1 p2 = .ok (.if_icmp .eq off, 3)) (ht : (p2 : Int) + off = (tgt : Int)) : ho_SC mi T d pc tgt (p2 + 3) (cEq f g) := by
  intro C hC v σ st Kt Kf hf hst hT hσ kt kf
  refine h C hC v σ st _ hf hst hT hσ fun x σ hKx hx hσ => ?_
  refine h2 C hC v σ _ _ hKx (by simp only [ho_cs, List.map_cons, List.sum_cons, ho_cat] at hst ⊢; omega) hT hσ fun i σ hKi hi hσ => ?_
  have hKt := fun q => kt σ (hKi.1 q) hσ
  have hKf := fun q => kf σ (hKi.2 q) hσ
  obtain ⟨p, l, e, R, s, m, args, below, meth, c, dC, dI, cA, ad, A, Q, X, ρ, Qf, nc, ns⟩ := C
  obtain ⟨he, hb, hm, ho, hts, hK, hA, hZ, hfr, hlo, hRc, hRs, hlk, hst0, hexc, hret, hqr, hzz⟩ := id hC
  intro hT hσ H locs ls hl hP hD hS
  have hx : ho_in x := hx
  have hi : ho_in i := hi
  refine lv_icmp_eq (x := Int32.ofInt x) (y := Int32.ofInt i) he hb hd ht (fun q => ?_) (fun q => ?_)
  · simp only [ho_lt hx hi, ho_lt hi hx, ho_le hx hi, ho_le hi hx, ho_eq hx hi] at q
    exact hKt (by omega) hT hσ H locs ls hl hP hD hS
  · simp only [ho_lt hx hi, ho_lt hi hx, ho_le hx hi, ho_le hi hx, ho_eq hx hi] at q
    exact hKf (by omega) hT hσ H locs ls hl hP hD hS
theorem sc_EqJ0 {f : ho_E} {off : Int} {tgt : Nat} (h : ho_SE mi T 0 d pc p1 f) (hd : decode mi.2.1 p1 = .ok (.ifCond .eq off, 3)) (ht : (p1 : Int) + off = (tgt : Int)) : ho_SC mi T d pc tgt (p1 + 3) (cEq f (eC 0)) := by
  intro C hC v σ st Kt Kf hf hst hT hσ kt kf
  refine h C hC v σ st _ hf hst hT hσ fun x σ hKx hx hσ => ?_
  obtain ⟨i, hi9⟩ : ∃ i : Int, i = 0 := ⟨0, rfl⟩
  have hi : ho_in i := by subst hi9; unfold ho_in; omega
  have hKi := hKx
  have e0 : (0 : Int32) = Int32.ofInt i := by subst hi9; rfl
  simp only [eC] at hKi
  rw [← hi9] at hKi
  have hKt := fun q => kt σ (hKi.1 q) hσ
  have hKf := fun q => kf σ (hKi.2 q) hσ
  obtain ⟨p, l, e, R, s, m, args, below, meth, c, dC, dI, cA, ad, A, Q, X, ρ, Qf, nc, ns⟩ := C
  obtain ⟨he, hb, hm, ho, hts, hK, hA, hZ, hfr, hlo, hRc, hRs, hlk, hst0, hexc, hret, hqr, hzz⟩ := id hC
  intro hT hσ H locs ls hl hP hD hS
  have hx : ho_in x := hx
  have hi : ho_in i := hi
  refine lv_if_eq (x := Int32.ofInt x) he hb hd ht (fun q => ?_) (fun q => ?_)
  all_goals rw [e0] at q
  · simp only [ho_lt hx hi, ho_lt hi hx, ho_le hx hi, ho_le hi hx, ho_eq hx hi] at q
    exact hKt (by omega) hT hσ H locs ls hl hP hD hS
  · simp only [ho_lt hx hi, ho_lt hi hx, ho_le hx hi, ho_le hi hx, ho_eq hx hi] at q
    exact hKf (by omega) hT hσ H locs ls hl hP hD hS
theorem sc_EqN {f g : ho_E} {off : Int} {tgt : Nat} (h : ho_SE mi T 0 d pc p1 f) (h2 : ho_SE mi T 0 (d + 1) p1 p2 g) (hd : decode mi.2.1 p2 = .ok (.if_icmp .ne off, 3)) (ht : (p2 : Int) + off = (tgt : Int)) : ho_SC mi T d pc (p2 + 3) tgt (cEq f g) := by
  intro C hC v σ st Kt Kf hf hst hT hσ kt kf
  refine h C hC v σ st _ hf hst hT hσ fun x σ hKx hx hσ => ?_
  refine h2 C hC v σ _ _ hKx (by simp only [ho_cs, List.map_cons, List.sum_cons, ho_cat] at hst ⊢; omega) hT hσ fun i σ hKi hi hσ => ?_
  have hKt := fun q => kt σ (hKi.1 q) hσ
  have hKf := fun q => kf σ (hKi.2 q) hσ
  obtain ⟨p, l, e, R, s, m, args, below, meth, c, dC, dI, cA, ad, A, Q, X, ρ, Qf, nc, ns⟩ := C
  obtain ⟨he, hb, hm, ho, hts, hK, hA, hZ, hfr, hlo, hRc, hRs, hlk, hst0, hexc, hret, hqr, hzz⟩ := id hC
  intro hT hσ H locs ls hl hP hD hS
  have hx : ho_in x := hx
  have hi : ho_in i := hi
  refine lv_icmp_ne (x := Int32.ofInt x) (y := Int32.ofInt i) he hb hd ht (fun q => ?_) (fun q => ?_)
  · simp only [ho_lt hx hi, ho_lt hi hx, ho_le hx hi, ho_le hi hx, ho_eq hx hi] at q
    exact hKf (by omega) hT hσ H locs ls hl hP hD hS
  · simp only [ho_lt hx hi, ho_lt hi hx, ho_le hx hi, ho_le hi hx, ho_eq hx hi] at q
    exact hKt (by omega) hT hσ H locs ls hl hP hD hS
theorem sc_EqN0 {f : ho_E} {off : Int} {tgt : Nat} (h : ho_SE mi T 0 d pc p1 f) (hd : decode mi.2.1 p1 = .ok (.ifCond .ne off, 3)) (ht : (p1 : Int) + off = (tgt : Int)) : ho_SC mi T d pc (p1 + 3) tgt (cEq f (eC 0)) := by
  intro C hC v σ st Kt Kf hf hst hT hσ kt kf
  refine h C hC v σ st _ hf hst hT hσ fun x σ hKx hx hσ => ?_
  obtain ⟨i, hi9⟩ : ∃ i : Int, i = 0 := ⟨0, rfl⟩
  have hi : ho_in i := by subst hi9; unfold ho_in; omega
  have hKi := hKx
  have e0 : (0 : Int32) = Int32.ofInt i := by subst hi9; rfl
  simp only [eC] at hKi
  rw [← hi9] at hKi
  have hKt := fun q => kt σ (hKi.1 q) hσ
  have hKf := fun q => kf σ (hKi.2 q) hσ
  obtain ⟨p, l, e, R, s, m, args, below, meth, c, dC, dI, cA, ad, A, Q, X, ρ, Qf, nc, ns⟩ := C
  obtain ⟨he, hb, hm, ho, hts, hK, hA, hZ, hfr, hlo, hRc, hRs, hlk, hst0, hexc, hret, hqr, hzz⟩ := id hC
  intro hT hσ H locs ls hl hP hD hS
  have hx : ho_in x := hx
  have hi : ho_in i := hi
  refine lv_if_ne (x := Int32.ofInt x) he hb hd ht (fun q => ?_) (fun q => ?_)
  all_goals rw [e0] at q
  · simp only [ho_lt hx hi, ho_lt hi hx, ho_le hx hi, ho_le hi hx, ho_eq hx hi] at q
    exact hKf (by omega) hT hσ H locs ls hl hP hD hS
  · simp only [ho_lt hx hi, ho_lt hi hx, ho_le hx hi, ho_le hi hx, ho_eq hx hi] at q
    exact hKt (by omega) hT hσ H locs ls hl hP hD hS
theorem sc_NeJ {f g : ho_E} {off : Int} {tgt : Nat} (h : ho_SE mi T 0 d pc p1 f) (h2 : ho_SE mi T 0 (d + 1) p1 p2 g) (hd : decode mi.2.1 p2 = .ok (.if_icmp .ne off, 3)) (ht : (p2 : Int) + off = (tgt : Int)) : ho_SC mi T d pc tgt (p2 + 3) (cNe f g) := by
  intro C hC v σ st Kt Kf hf hst hT hσ kt kf
  refine h C hC v σ st _ hf hst hT hσ fun x σ hKx hx hσ => ?_
  refine h2 C hC v σ _ _ hKx (by simp only [ho_cs, List.map_cons, List.sum_cons, ho_cat] at hst ⊢; omega) hT hσ fun i σ hKi hi hσ => ?_
  have hKt := fun q => kt σ (hKi.1 q) hσ
  have hKf := fun q => kf σ (hKi.2 q) hσ
  obtain ⟨p, l, e, R, s, m, args, below, meth, c, dC, dI, cA, ad, A, Q, X, ρ, Qf, nc, ns⟩ := C
  obtain ⟨he, hb, hm, ho, hts, hK, hA, hZ, hfr, hlo, hRc, hRs, hlk, hst0, hexc, hret, hqr, hzz⟩ := id hC
  intro hT hσ H locs ls hl hP hD hS
  have hx : ho_in x := hx
  have hi : ho_in i := hi
  refine lv_icmp_ne (x := Int32.ofInt x) (y := Int32.ofInt i) he hb hd ht (fun q => ?_) (fun q => ?_)
  · simp only [ho_lt hx hi, ho_lt hi hx, ho_le hx hi, ho_le hi hx, ho_eq hx hi] at q
    exact hKt (by omega) hT hσ H locs ls hl hP hD hS
  · simp only [ho_lt hx hi, ho_lt hi hx, ho_le hx hi, ho_le hi hx, ho_eq hx hi] at q
    exact hKf (by omega) hT hσ H locs ls hl hP hD hS
theorem sc_NeJ0 {f : ho_E} {off : Int} {tgt : Nat} (h : ho_SE mi T 0 d pc p1 f) (hd : decode mi.2.1 p1 = .ok (.ifCond .ne off, 3)) (ht : (p1 : Int) + off = (tgt : Int)) : ho_SC mi T d pc tgt (p1 + 3) (cNe f (eC 0)) := by
  intro C hC v σ st Kt Kf hf hst hT hσ kt kf
  refine h C hC v σ st _ hf hst hT hσ fun x σ hKx hx hσ => ?_
  obtain ⟨i, hi9⟩ : ∃ i : Int, i = 0 := ⟨0, rfl⟩
  have hi : ho_in i := by subst hi9; unfold ho_in; omega
  have hKi := hKx
  have e0 : (0 : Int32) = Int32.ofInt i := by subst hi9; rfl
  simp only [eC] at hKi
  rw [← hi9] at hKi
  have hKt := fun q => kt σ (hKi.1 q) hσ
  have hKf := fun q => kf σ (hKi.2 q) hσ
  obtain ⟨p, l, e, R, s, m, args, below, meth, c, dC, dI, cA, ad, A, Q, X, ρ, Qf, nc, ns⟩ := C
  obtain ⟨he, hb, hm, ho, hts, hK, hA, hZ, hfr, hlo, hRc, hRs, hlk, hst0, hexc, hret, hqr, hzz⟩ := id hC
  intro hT hσ H locs ls hl hP hD hS
  have hx : ho_in x := hx
  have hi : ho_in i := hi
  refine lv_if_ne (x := Int32.ofInt x) he hb hd ht (fun q => ?_) (fun q => ?_)
  all_goals rw [e0] at q
  · simp only [ho_lt hx hi, ho_lt hi hx, ho_le hx hi, ho_le hi hx, ho_eq hx hi] at q
    exact hKt (by omega) hT hσ H locs ls hl hP hD hS
  · simp only [ho_lt hx hi, ho_lt hi hx, ho_le hx hi, ho_le hi hx, ho_eq hx hi] at q
    exact hKf (by omega) hT hσ H locs ls hl hP hD hS
theorem sc_NeN {f g : ho_E} {off : Int} {tgt : Nat} (h : ho_SE mi T 0 d pc p1 f) (h2 : ho_SE mi T 0 (d + 1) p1 p2 g) (hd : decode mi.2.1 p2 = .ok (.if_icmp .eq off, 3)) (ht : (p2 : Int) + off = (tgt : Int)) : ho_SC mi T d pc (p2 + 3) tgt (cNe f g) := by
  intro C hC v σ st Kt Kf hf hst hT hσ kt kf
  refine h C hC v σ st _ hf hst hT hσ fun x σ hKx hx hσ => ?_
  refine h2 C hC v σ _ _ hKx (by simp only [ho_cs, List.map_cons, List.sum_cons, ho_cat] at hst ⊢; omega) hT hσ fun i σ hKi hi hσ => ?_
  have hKt := fun q => kt σ (hKi.1 q) hσ
  have hKf := fun q => kf σ (hKi.2 q) hσ
  obtain ⟨p, l, e, R, s, m, args, below, meth, c, dC, dI, cA, ad, A, Q, X, ρ, Qf, nc, ns⟩ := C
  obtain ⟨he, hb, hm, ho, hts, hK, hA, hZ, hfr, hlo, hRc, hRs, hlk, hst0, hexc, hret, hqr, hzz⟩ := id hC
  intro hT hσ H locs ls hl hP hD hS
  have hx : ho_in x := hx
  have hi : ho_in i := hi
  refine lv_icmp_eq (x := Int32.ofInt x) (y := Int32.ofInt i) he hb hd ht (fun q => ?_) (fun q => ?_)
  · simp only [ho_lt hx hi, ho_lt hi hx, ho_le hx hi, ho_le hi hx, ho_eq hx hi] at q
    exact hKf (by omega) hT hσ H locs ls hl hP hD hS
  · simp only [ho_lt hx hi, ho_lt hi hx, ho_le hx hi, ho_le hi hx, ho_eq hx hi] at q
    exact hKt (by omega) hT hσ H locs ls hl hP hD hS
theorem sc_NeN0 {f : ho_E} {off : Int} {tgt : Nat} (h : ho_SE mi T 0 d pc p1 f) (hd : decode mi.2.1 p1 = .ok (.ifCond .eq off, 3)) (ht : (p1 : Int) + off = (tgt : Int)) : ho_SC mi T d pc (p1 + 3) tgt (cNe f (eC 0)) := by
  intro C hC v σ st Kt Kf hf hst hT hσ kt kf
  refine h C hC v σ st _ hf hst hT hσ fun x σ hKx hx hσ => ?_
  obtain ⟨i, hi9⟩ : ∃ i : Int, i = 0 := ⟨0, rfl⟩
  have hi : ho_in i := by subst hi9; unfold ho_in; omega
  have hKi := hKx
  have e0 : (0 : Int32) = Int32.ofInt i := by subst hi9; rfl
  simp only [eC] at hKi
  rw [← hi9] at hKi
  have hKt := fun q => kt σ (hKi.1 q) hσ
  have hKf := fun q => kf σ (hKi.2 q) hσ
  obtain ⟨p, l, e, R, s, m, args, below, meth, c, dC, dI, cA, ad, A, Q, X, ρ, Qf, nc, ns⟩ := C
  obtain ⟨he, hb, hm, ho, hts, hK, hA, hZ, hfr, hlo, hRc, hRs, hlk, hst0, hexc, hret, hqr, hzz⟩ := id hC
  intro hT hσ H locs ls hl hP hD hS
  have hx : ho_in x := hx
  have hi : ho_in i := hi
  refine lv_if_eq (x := Int32.ofInt x) he hb hd ht (fun q => ?_) (fun q => ?_)
  all_goals rw [e0] at q
  · simp only [ho_lt hx hi, ho_lt hi hx, ho_le hx hi, ho_le hi hx, ho_eq hx hi] at q
    exact hKf (by omega) hT hσ H locs ls hl hP hD hS
  · simp only [ho_lt hx hi, ho_lt hi hx, ho_le hx hi, ho_le hi hx, ho_eq hx hi] at q
    exact hKt (by omega) hT hσ H locs ls hl hP hD hS
end
