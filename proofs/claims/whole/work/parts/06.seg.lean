/-! ===== a method's walk: contexts, points, and what a piece of code does ===== -/
abbrev ho_Cx := Program × Launch × Env × Room × State × MethodId × Array Value × List Frame × Method × Code × (Nat → ClassId) × (Nat → Nat → Nat) × (Nat → ClassId) × (Nat → Nat) × (Nat → Prop) × ho_K × ho_X × Nat × (State → Prop) × Nat × Nat
/-- own class, bytes, locals, frames and locals of room, the returned type; where calls may stand; what else the context gives -/
abbrev ho_I := String × ByteArray × Nat × Nat × Nat × Option FieldType × (Nat → Prop) × (ho_Cx → Prop)
/-- a thrown thing is taken on, from a call at pc -/
def ho_exit (C : ho_Cx) (pcs : Nat → Prop) : Prop := match C with
  | (p, l, e, R, s, m, args, below, meth, c, dC, dI, cA, ad, A, Q, X, ρ, Qf, nc, ns) => ∀ (ec : Nat) (σ : ho_S) (H : Heap) (locs : List Loc) (q : Addr) (ce : Cell) (pc : Nat) (T : List Nat) (v : List Int) (ls : Array Slot) (rest : List Value), pcs pc → X ec σ → ho_at dC dI cA ad A σ H → va_S A s.heap H locs → ho_ty T v → ho_ls ad T v ls c.maxLocals → H[q]? = some ce → ce.vm = .none → s.vm.findClass (ho_ex ec) = some ce.cls → vx_W p l e R s m args below meth c H locs (nc + 1) (ns + 6) Qf (F0 m pc ls rest) q
def ho_ok (C : ho_Cx) (mi : ho_I) : Prop := match C with
  | (p, l, e, R, s, m, args, below, meth, c, dC, dI, cA, ad, A, Q, X, ρ, Qf, nc, ns) => p.tables.exec = Jvm.exec ∧ c.code = mi.2.1 ∧ c.maxLocals = mi.2.2.1 ∧ s.vm.findClass mi.1 = some m.cls ∧ (∀ w ∈ ho_TB, w.before args s = true) ∧ va_K (dC, dI) vwCl (ho_tys cA) s ∧ (∀ q, s.heap.size ≤ q → A q) ∧ ho_st A s s.heap ∧ mi.2.2.2.1 ≤ R.frames ∧ mi.2.2.2.2.1 ≤ R.locals ∧ nc + 1 ≤ R.cells ∧ ns + 6 ≤ R.slots ∧ meth.locks = false ∧ l.stackTraces = false ∧ ho_exit (p, l, e, R, s, m, args, below, meth, c, dC, dI, cA, ad, A, Q, X, ρ, Qf, nc, ns) mi.2.2.2.2.2.2.1 ∧ meth.sig.returnType = mi.2.2.2.2.2.1 ∧ (∀ t, MQ below (ho_Qc dC dI cA ad A ρ Q) args s nc ns A t → Qf t) ∧ mi.2.2.2.2.2.2.2 (p, l, e, R, s, m, args, below, meth, c, dC, dI, cA, ad, A, Q, X, ρ, Qf, nc, ns)
/-- a method without a table of its own, whose end is its contract's -/
def ho_plain (C : ho_Cx) : Prop := match C with
  | (p, l, e, R, s, m, args, below, meth, c, dC, dI, cA, ad, A, Q, X, ρ, Qf, nc, ns) => (∀ x ∈ c.exceptionTable.toList, False) ∧ nc = 0 ∧ ns = 0 ∧ ∀ t, vx_MQ below (fun _ _ _ _ => False) (ho_XC dC dI cA ad A X) args s 1 6 A t → Qf t
def ho_X' (C : ho_Cx) : ho_X := match C with
  | (p, l, e, R, s, m, args, below, meth, c, dC, dI, cA, ad, A, Q, X, ρ, Qf, nc, ns) => X
def ho_Q' (C : ho_Cx) : ho_K := match C with
  | (p, l, e, R, s, m, args, below, meth, c, dC, dI, cA, ad, A, Q, X, ρ, Qf, nc, ns) => Q
def ho_ad (C : ho_Cx) : Nat → Nat := match C with
  | (p, l, e, R, s, m, args, below, meth, c, dC, dI, cA, ad, A, Q, X, ρ, Qf, nc, ns) => ad
def ho_ro (C : ho_Cx) : Nat := match C with
  | (p, l, e, R, s, m, args, below, meth, c, dC, dI, cA, ad, A, Q, X, ρ, Qf, nc, ns) => ρ
def ho_P (C : ho_Cx) (pc : Nat) (T : List Nat) (v : List Int) (st : List Value) (σ : ho_S) : Prop := match C with
  | (p, l, e, R, s, m, args, below, meth, c, dC, dI, cA, ad, A, Q, X, ρ, Qf, nc, ns) => ho_ty T v → ho_rng σ → ∀ (H : Heap) (locs : List Loc) (ls : Array Slot), ho_ls ad T v ls c.maxLocals → va_P (dC, dI) vwCl (ho_W cA ad σ) H → va_D A (ho_W cA ad σ) → va_S A s.heap H locs →
      W p l e R s m args below meth c H locs nc ns Qf (F0 m pc ls st)
def ho_cs (st : List Value) : Nat := (st.map fun v => v.category).sum
/-- an expression: from pc it leaves one value of tag τ, at pc' -/
def ho_SE (mi : ho_I) (T : List Nat) (τ d pc pc' : Nat) (f : ho_E) : Prop := ∀ (C : ho_Cx), ho_ok C mi → ∀ (v : List Int) (σ : ho_S) (st : List Value) (K : ho_K), f v σ K (ho_X' C) → ho_cs st ≤ d → ho_ty T v → ho_rng σ →
  (∀ (x : Int) (σ' : ho_S), K x σ' → ho_typ τ x → ho_rng σ' → ho_P C pc' T v (ho_val (ho_ad C) τ x :: st) σ') → ho_P C pc T v st σ
/-- a call's arguments -/
def ho_SA (mi : ho_I) (T Ta : List Nat) (d pc pc' : Nat) (f : ho_A) : Prop := ∀ (C : ho_Cx), ho_ok C mi → ∀ (v : List Int) (σ : ho_S) (st : List Value) (K : List Int → ho_S → Prop), f v σ K (ho_X' C) → ho_cs st ≤ d → ho_ty T v → ho_rng σ →
  (∀ (x : List Int) (σ' : ho_S), K x σ' → ho_ty Ta x → ho_rng σ' → ho_P C pc' T v ((ho_vals (ho_ad C) Ta x).reverse ++ st) σ') → ho_P C pc T v st σ
/-- a condition: to pt where it holds, else to pf -/
def ho_SC (mi : ho_I) (T : List Nat) (d pc pt pf : Nat) (f : ho_C) : Prop := ∀ (C : ho_Cx), ho_ok C mi → ∀ (v : List Int) (σ : ho_S) (st : List Value) (Kt Kf : ho_S → Prop), f v σ Kt Kf (ho_X' C) → ho_cs st ≤ d → ho_ty T v → ho_rng σ →
  (∀ σ' : ho_S, Kt σ' → ho_rng σ' → ho_P C pt T v st σ') → (∀ σ' : ho_S, Kf σ' → ho_rng σ' → ho_P C pf T v st σ') → ho_P C pc T v st σ
/-- a statement -/
def ho_SS (mi : ho_I) (ρ : Nat) (T T' : List Nat) (pc pc' : Nat) (f : ho_Z) : Prop := ∀ (C : ho_Cx), ho_ok C mi → ho_ro C = ρ → ∀ (v : List Int) (σ : ho_S) (K : List Int → ho_S → Prop), f v σ K (ho_Q' C) (ho_X' C) → ho_ty T v → ho_rng σ →
  (∀ (v' : List Int) (σ' : ho_S), K v' σ' → ho_ty T' v' → ho_rng σ' → ho_P C pc' T' v' [] σ') → ho_P C pc T v [] σ
-- ===== the meanings =====
def eC (n : Int) : ho_E := fun _ σ K _ => K n σ
def eV (i : Nat) : ho_E := fun v σ K _ => K (v.getD i 0) σ
def eF (f : ho_E) (j : Nat) : ho_E := fun v σ K X => f v σ (fun r σ => K (σ r.toNat j) σ) X
def eR (f : ho_E) (j : Nat) : ho_E := fun v σ K X => f v σ (fun r σ => K (ho_R r.toNat j : Int) σ) X
def eI (f g : ho_E) : ho_E := fun v σ K X => f v σ (fun r σ => g v σ (fun i σ => (0 ≤ i ∧ i < (ho_N r.toNat : Int)) ∧ K (σ r.toNat i.toNat) σ) X) X
def eL (f : ho_E) : ho_E := fun v σ K X => f v σ (fun r σ => K (ho_N r.toNat : Int) σ) X
def eB (op : Int → Int → Int) (f g : ho_E) : ho_E := fun v σ K X => f v σ (fun a σ => g v σ (fun b σ => K (op a b) σ) X) X
def ho_oadd (a b : Int) : Int := ho_w (a + b)
def ho_osub (a b : Int) : Int := ho_w (a - b)
def ho_omul (a b : Int) : Int := ho_w (a * b)
def ho_oand (a b : Int) : Int := (Int32.ofInt a &&& Int32.ofInt b).toInt
def ho_oor (a b : Int) : Int := (Int32.ofInt a ||| Int32.ofInt b).toInt
def ho_oxor (a b : Int) : Int := (Int32.ofInt a ^^^ Int32.ofInt b).toInt
def ho_oshl (a b : Int) : Int := (Int32.ofInt a <<< (Int32.ofInt b &&& 31)).toInt
def ho_oshr (a b : Int) : Int := (Int32.ofInt a >>> (Int32.ofInt b &&& 31)).toInt
def ho_oushr (a b : Int) : Int := ((Int32.ofInt a).toUInt32 >>> ((Int32.ofInt b).toUInt32 &&& Int32.toUInt32 31)).toInt32.toInt
def ho_omax (a b : Int) : Int := if a < b then b else a
def ho_omin (a b : Int) : Int := if b < a then b else a
def ho_oabs (a : Int) : Int := if 0 ≤ a then a else ho_w (-a)
def ho_oi2c (a : Int) : Int := ((Int32.ofInt a).toUInt32 % 65536).toInt32.toInt
def eD (f g : ho_E) : ho_E := fun v σ K X => f v σ (fun a σ => g v σ (fun b σ => b ≠ 0 ∧ K (ho_w (Int.tdiv a b)) σ) X) X
def eM (f g : ho_E) : ho_E := fun v σ K X => f v σ (fun a σ => g v σ (fun b σ => b ≠ 0 ∧ K (ho_w (Int.tmod a b)) σ) X) X
def eU (op : Int → Int) (f : ho_E) : ho_E := fun v σ K X => f v σ (fun a σ => K (op a) σ) X
def aN : ho_A := fun _ σ K _ => K [] σ
def aC (f : ho_E) (t : ho_A) : ho_A := fun v σ K X => f v σ (fun a σ => t v σ (fun l σ => K (a :: l) σ) X) X
def eK (M : ho_M) (as : ho_A) : ho_E := fun v σ K X => as v σ (fun l σ => M l σ K X) X
def eT (c : ho_C) (f g : ho_E) : ho_E := fun v σ K X => c v σ (fun σ => f v σ K X) (fun σ => g v σ K X) X
def cLt (f g : ho_E) : ho_C := fun v σ Kt Kf X => f v σ (fun a σ => g v σ (fun b σ => (a < b → Kt σ) ∧ (b ≤ a → Kf σ)) X) X
def cLe (f g : ho_E) : ho_C := fun v σ Kt Kf X => f v σ (fun a σ => g v σ (fun b σ => (a ≤ b → Kt σ) ∧ (b < a → Kf σ)) X) X
def cGt (f g : ho_E) : ho_C := fun v σ Kt Kf X => f v σ (fun a σ => g v σ (fun b σ => (b < a → Kt σ) ∧ (a ≤ b → Kf σ)) X) X
def cGe (f g : ho_E) : ho_C := fun v σ Kt Kf X => f v σ (fun a σ => g v σ (fun b σ => (b ≤ a → Kt σ) ∧ (a < b → Kf σ)) X) X
def cEq (f g : ho_E) : ho_C := fun v σ Kt Kf X => f v σ (fun a σ => g v σ (fun b σ => (a = b → Kt σ) ∧ (a ≠ b → Kf σ)) X) X
def cNe (f g : ho_E) : ho_C := fun v σ Kt Kf X => f v σ (fun a σ => g v σ (fun b σ => (a ≠ b → Kt σ) ∧ (a = b → Kf σ)) X) X
def cAnd (c d : ho_C) : ho_C := fun v σ Kt Kf X => c v σ (fun σ => d v σ Kt Kf X) Kf X
def cOr (c d : ho_C) : ho_C := fun v σ Kt Kf X => c v σ Kt (fun σ => d v σ Kt Kf X) X
def cNot (c : ho_C) : ho_C := fun v σ Kt Kf X => c v σ Kf Kt X
def zN : ho_Z := fun v σ K _ _ => K v σ
def zS (a b : ho_Z) : ho_Z := fun v σ K R X => a v σ (fun v σ => b v σ K R X) R X
def zD (f : ho_E) : ho_Z := fun v σ K _ X => f v σ (fun a σ => K (v ++ [a]) σ) X
def zL (i : Nat) (f : ho_E) : ho_Z := fun v σ K _ X => f v σ (fun a σ => K (v.set i a) σ) X
def zI (i : Nat) (n : Int) : ho_Z := fun v σ K _ _ => K (v.set i (ho_w (v.getD i 0 + n))) σ
def zB (n : Nat) (a : ho_Z) : ho_Z := fun v σ K R X => a v σ (fun v σ => K (v.take n) σ) R X
def zP (f : ho_E) (j : Nat) (g : ho_E) : ho_Z := fun v σ K _ X => f v σ (fun r σ => g v σ (fun a σ => K v (ho_up σ r.toNat j a)) X) X
def zF (f : ho_E) (j : Nat) (op : Int → Int → Int) (g : ho_E) : ho_Z := fun v σ K _ X => f v σ (fun r σ => g v σ (fun b σ' => K v (ho_up σ' r.toNat j (op (σ r.toNat j) b))) X) X
def zA (nar : Int → Int) (f g h : ho_E) : ho_Z := fun v σ K _ X => f v σ (fun r σ => g v σ (fun i σ => h v σ (fun a σ => (0 ≤ i ∧ i < (ho_N r.toNat : Int)) ∧ K v (ho_up σ r.toNat i.toNat (nar a))) X) X) X
def zU (f g : ho_E) (op : Int → Int → Int) (h : ho_E) : ho_Z := fun v σ K _ X => f v σ (fun r σ => g v σ (fun i σ => (0 ≤ i ∧ i < (ho_N r.toNat : Int)) ∧ h v σ (fun b σ' => K v (ho_up σ' r.toNat i.toNat (op (σ r.toNat i.toNat) b))) X) X) X
def ho_nid (a : Int) : Int := a
def ho_nc (a : Int) : Int := (vp_nar .char (Int32.ofInt a)).toInt
def ho_nz (a : Int) : Int := (vp_nar .boolean (Int32.ofInt a)).toInt
def zC (c : ho_C) (a b : ho_Z) : ho_Z := fun v σ K R X => c v σ (fun σ => a v σ K R X) (fun σ => b v σ K R X) X
def zW (c : ho_C) (b : ho_Z) : ho_Z := fun v σ K R X => ∃ J : List Int → ho_S → Nat → Prop, (∃ n, J v σ n) ∧ ∀ v σ n, J v σ n → c v σ (fun σ => b v σ (fun v σ => ∃ k, k < n ∧ J v σ k) R X) (fun σ => K v σ) X
def zR (f : ho_E) : ho_Z := fun v σ _ R X => f v σ (fun a σ => R a σ) X
def zRZ (f : ho_E) : ho_Z := fun v σ _ R X => f v σ (fun a σ => (a = 0 ∨ a = 1) ∧ R a σ) X
def zRC (f : ho_E) : ho_Z := fun v σ _ R X => f v σ (fun a σ => (0 ≤ a ∧ a < 65536) ∧ R a σ) X
def zRV : ho_Z := fun _ σ _ R _ => R 0 σ
def zT (ec : Nat) : ho_Z := fun _ σ _ _ X => X ec σ
def zE (f : ho_E) : ho_Z := fun v σ K _ X => f v σ (fun _ σ => K v σ) X
def zK (M : ho_M) (as : ho_A) : ho_Z := fun v σ K _ X => as v σ (fun l σ => M l σ (fun _ σ => K v σ) X) X
-- ===== their rows =====
section
variable {mi : ho_I} {ρ : Nat} {T T' Ta : List Nat} {τ d pc p1 p2 pc' : Nat}
theorem ho_typ0 {x : Int} (h : ho_typ 0 x) : ho_in x := h
theorem ho_typS {τ : Nat} {x : Int} (h : ho_typ (τ + 1) x) (hτ : τ ≠ 98) : 0 ≤ x ∧ x.toNat < 55 ∧ ho_T x.toNat = τ := by
  unfold ho_typ at h; rw [if_neg (by omega)] at h
  rcases h with ⟨h, -⟩ | h
  · omega
  · exact ⟨h.1, h.2.1, by omega⟩
theorem ho_ci {ci : Nat} {q : vw_C} (h : vwCl[ci]? = some q) : ci + 4 ≠ 98 := by
  have h1 := (List.getElem?_eq_some_iff.mp h).1
  have h2 : vwCl.length = 8 := rfl
  omega
theorem ho_in_num {n : Int} (h : (decide (-2147483648 ≤ n) && decide (n < 2147483648)) = true) : ho_in n := by
  simp only [Bool.and_eq_true, decide_eq_true_eq] at h; exact h
theorem se_iconst {n : Int} (hd : decode mi.2.1 pc = .ok (.iconst n, 1)) (hn : (decide (-2147483648 ≤ n) && decide (n < 2147483648)) = true) : ho_SE mi T 0 d pc (pc + 1) (eC n) := by
  rintro ⟨p, l, e, R, s, m, args, below, meth, c, dC, dI, cA, ad, A, Q, X, ρ, Qf, nc, ns⟩ hC v σ st K hf hst hT hσ kk
  obtain ⟨hx, hb, hm, ho, hts, hK, hA, hZ, -⟩ := id hC
  intro hT hσ H locs ls hl hP hD hS
  exact lv_iconst hx hb hd rfl (kk n σ hf (ho_in_num hn) hσ hT hσ H locs ls hl hP hD hS)
theorem se_bipush {n : Int} (hd : decode mi.2.1 pc = .ok (.bipush n, 2)) (hv : (Int8.ofInt n).toInt32 = Int32.ofInt n) (hn : (decide (-2147483648 ≤ n) && decide (n < 2147483648)) = true) : ho_SE mi T 0 d pc (pc + 2) (eC n) := by
  rintro ⟨p, l, e, R, s, m, args, below, meth, c, dC, dI, cA, ad, A, Q, X, ρ, Qf, nc, ns⟩ hC v σ st K hf hst hT hσ kk
  obtain ⟨hx, hb, hm, ho, hts, hK, hA, hZ, -⟩ := id hC
  intro hT hσ H locs ls hl hP hD hS
  exact lv_bipush hx hb hd hv (kk n σ hf (ho_in_num hn) hσ hT hσ H locs ls hl hP hD hS)
theorem se_sipush {n : Int} (hd : decode mi.2.1 pc = .ok (.sipush n, 3)) (hv : (Int16.ofInt n).toInt32 = Int32.ofInt n) (hn : (decide (-2147483648 ≤ n) && decide (n < 2147483648)) = true) : ho_SE mi T 0 d pc (pc + 3) (eC n) := by
  rintro ⟨p, l, e, R, s, m, args, below, meth, c, dC, dI, cA, ad, A, Q, X, ρ, Qf, nc, ns⟩ hC v σ st K hf hst hT hσ kk
  obtain ⟨hx, hb, hm, ho, hts, hK, hA, hZ, -⟩ := id hC
  intro hT hσ H locs ls hl hP hD hS
  exact lv_sipush hx hb hd hv (kk n σ hf (ho_in_num hn) hσ hT hσ H locs ls hl hP hD hS)
theorem se_ldc {n : Int} {idx : Nat} (hd : decode mi.2.1 pc = .ok (.ldc idx, 2)) (hw : Cond.constant mi.1 idx (Int32.ofInt n) ∈ ho_TB) (hn : (decide (-2147483648 ≤ n) && decide (n < 2147483648)) = true) : ho_SE mi T 0 d pc (pc + 2) (eC n) := by
  rintro ⟨p, l, e, R, s, m, args, below, meth, c, dC, dI, cA, ad, A, Q, X, ρ, Qf, nc, ns⟩ hC v σ st K hf hst hT hσ kk
  obtain ⟨hx, hb, hm, ho, hts, hK, hA, hZ, -⟩ := id hC
  intro hT hσ H locs ls hl hP hD hS
  exact lv_ldc hx hb ho (hts _ hw) hd (kk n σ hf (ho_in_num hn) hσ hT hσ H locs ls hl hP hD hS)
theorem se_ldcw {n : Int} {idx : Nat} (hd : decode mi.2.1 pc = .ok (.ldc_w idx, 3)) (hw : Cond.constant mi.1 idx (Int32.ofInt n) ∈ ho_TB) (hn : (decide (-2147483648 ≤ n) && decide (n < 2147483648)) = true) : ho_SE mi T 0 d pc (pc + 3) (eC n) := by
  rintro ⟨p, l, e, R, s, m, args, below, meth, c, dC, dI, cA, ad, A, Q, X, ρ, Qf, nc, ns⟩ hC v σ st K hf hst hT hσ kk
  obtain ⟨hx, hb, hm, ho, hts, hK, hA, hZ, -⟩ := id hC
  intro hT hσ H locs ls hl hP hD hS
  exact lv_ldcw hx hb ho (hts _ hw) hd (kk n σ hf (ho_in_num hn) hσ hT hσ H locs ls hl hP hD hS)
theorem ho_ls_at {ad : Nat → Nat} {T : List Nat} {v : List Int} {ls : Array Slot} {nL i τ : Nat} (h : ho_ls ad T v ls nL) (hT : ho_ty T v) (hi : T[i]? = some τ) : ls[i]? = some (.val (ho_val ad τ (v.getD i 0))) := h.2.2 i τ _ hi (ho_ty_get hT hi)
theorem se_iload {i : Nat} (hi : T[i]? = some 0) (hd : decode mi.2.1 pc = .ok (.iload i, 2)) : ho_SE mi T 0 d pc (pc + 2) (eV i) := by
  rintro ⟨p, l, e, R, s, m, args, below, meth, c, dC, dI, cA, ad, A, Q, X, ρ, Qf, nc, ns⟩ hC v σ st K hf hst hT hσ kk
  obtain ⟨hx, hb, hm, ho, hts, hK, hA, hZ, -⟩ := id hC
  intro hT hσ H locs ls hl hP hD hS
  exact lv_iload hx hb hd (ho_ls_at hl hT hi) (kk _ σ hf (ho_typ_get hT hi) hσ hT hσ H locs ls hl hP hD hS)
theorem se_iload_n {i : Nat} {k : Fin 4} (hi : T[i]? = some 0) (hk : (k : Nat) = i) (hd : decode mi.2.1 pc = .ok (.iload_n k, 1)) : ho_SE mi T 0 d pc (pc + 1) (eV i) := by
  rintro ⟨p, l, e, R, s, m, args, below, meth, c, dC, dI, cA, ad, A, Q, X, ρ, Qf, nc, ns⟩ hC v σ st K hf hst hT hσ kk
  obtain ⟨hx, hb, hm, ho, hts, hK, hA, hZ, -⟩ := id hC
  intro hT hσ H locs ls hl hP hD hS
  exact lv_iload_n hx hb hd hk (ho_ls_at hl hT hi) (kk _ σ hf (ho_typ_get hT hi) hσ hT hσ H locs ls hl hP hD hS)
theorem se_aload {i : Nat} (hi : T[i]? = some (τ + 1)) (hd : decode mi.2.1 pc = .ok (.aload i, 2)) : ho_SE mi T (τ + 1) d pc (pc + 2) (eV i) := by
  rintro ⟨p, l, e, R, s, m, args, below, meth, c, dC, dI, cA, ad, A, Q, X, ρ, Qf, nc, ns⟩ hC v σ st K hf hst hT hσ kk
  obtain ⟨hx, hb, hm, ho, hts, hK, hA, hZ, -⟩ := id hC
  intro hT hσ H locs ls hl hP hD hS
  exact lv_aload hx hb hd (ho_ls_at hl hT hi) (kk _ σ hf (ho_typ_get hT hi) hσ hT hσ H locs ls hl hP hD hS)
theorem se_aload_n {i : Nat} {k : Fin 4} (hi : T[i]? = some (τ + 1)) (hk : (k : Nat) = i) (hd : decode mi.2.1 pc = .ok (.aload_n k, 1)) : ho_SE mi T (τ + 1) d pc (pc + 1) (eV i) := by
  rintro ⟨p, l, e, R, s, m, args, below, meth, c, dC, dI, cA, ad, A, Q, X, ρ, Qf, nc, ns⟩ hC v σ st K hf hst hT hσ kk
  obtain ⟨hx, hb, hm, ho, hts, hK, hA, hZ, -⟩ := id hC
  intro hT hσ H locs ls hl hP hD hS
  exact lv_aload_n hx hb hd hk (ho_ls_at hl hT hi) (kk _ σ hf (ho_typ_get hT hi) hσ hT hσ H locs ls hl hP hD hS)
-- fields
theorem ho_ce_obj {cA : Nat → ClassId} {ad : Nat → Nat} {σ : ho_S} {k ci : Nat} (h : ho_T k = ci + 4) : ho_ce cA ad σ k = .inr (ci, (List.range (ho_N k)).map (ho_fv ad σ k ci)) := by
  simp [ho_ce, h]
theorem ho_ce_arr {cA : Nat → ClassId} {ad : Nat → Nat} {σ : ho_S} {k : Nat} (h : ho_T k < 3) : ho_ce cA ad σ k = .inl (cA (ho_T k), ho_N k, .inl (fun j => Int32.ofInt (σ k j))) := by
  simp [ho_ce, h]
theorem ho_N_obj : ∀ k, k < 55 → ∀ ci, ho_T k = ci + 4 → (vwCl[ci]?).map (fun q => q.2.2) = some (ho_N k) := by
  intro k hk ci h
  have h9 : ((List.range 55).all fun k => decide (ho_T k < 4) || decide ((vwCl[ho_T k - 4]?).map (fun q => q.2.2) = some (ho_N k))) = true := by decide +kernel
  have h8 := List.all_eq_true.mp h9 k (List.mem_range.mpr hk)
  simp only [Bool.or_eq_true, decide_eq_true_eq] at h8
  rcases h8 with h8 | h8
  · omega
  · rw [show ho_T k - 4 = ci by omega] at h8; exact h8
theorem ho_field {cA : Nat → ClassId} {ad : Nat → Nat} {σ : ho_S} {k ci j : Nat} {q : vw_C} (hk : k < 55) (h : ho_T k = ci + 4) (hc : vwCl[ci]? = some q) (hj : j < q.2.2) : ((List.range (ho_N k)).map (ho_fv ad σ k ci))[j]? = some (ho_fv ad σ k ci j) ∧ j < (List.range (ho_N k)).length := by
  have h1 := ho_N_obj k hk ci h
  rw [hc] at h1
  have h2 : q.2.2 = ho_N k := Option.some.inj h1
  have h3 : j < ho_N k := by omega
  simp [h3]
theorem se_get {f : ho_E} {ci j idx : Nat} {q : vw_C} (h : ho_SE mi T (ci + 5) d pc p1 f) (hc : vwCl[ci]? = some q) (hj : j < q.2.2) (hF : ho_F ci j = 0) (hw : ∀ w ∈ u_ws q.1 q.2.1 q.2.2, w ∈ ho_TB) (hlink : Cond.fieldLink mi.1 idx (q.2.1 j).1 (q.2.1 j).2.1 (q.2.1 j).2.2.1 ∈ ho_TB) (hd : decode mi.2.1 p1 = .ok (.getfield idx, 3)) : ho_SE mi T 0 d pc (p1 + 3) (eF f j) := by
  intro C hC v σ st K hf hst hT hσ kk
  refine h C hC v σ st _ hf hst hT hσ fun x σ hKx hx hσ => ?_
  obtain ⟨hx0, hx1, hx2⟩ := ho_typS hx (ho_ci hc)
  obtain ⟨p, l, e, R, s, m, args, below, meth, c, dC, dI, cA, ad, A, Q, X, ρ, Qf, nc, ns⟩ := C
  obtain ⟨he, hb, hm, ho, hts, hK, hA, hZ, -⟩ := id hC
  intro hT hσ H locs ls hl hP hD hS
  have hg := ho_W_get (cA := cA) (ad := ad) (σ := σ) hx1
  rw [ho_ce_obj hx2] at hg
  have hv := (ho_field (cA := cA) (ad := ad) (σ := σ) hx1 hx2 hc hj).1
  refine va_get (D := (dC, dI)) (C := q.1) (T := q.2.1) (N := q.2.2) he hb hts hw ho hK hP x.toNat hg hc j hj (hts _ hlink) (fun _ h9 => h9) (v := .int (Int32.ofInt (σ x.toNat j))) (by rw [hv, ho_fv, if_pos hF]) hd ?_
  exact kk _ σ hKx (hσ _ _) hσ hT hσ H locs ls hl hP hD hS
theorem ho_R_ok : ∀ k, k < 55 → ∀ ci, ho_T k = ci + 4 → ∀ j, j < 32 → ho_F ci j ≠ 0 → ho_R k j < 55 ∧ ho_T (ho_R k j) + 1 = ho_F ci j := by
  intro k hk ci h j hj hF
  have h9 : ((List.range 55).all fun k => decide (ho_T k < 4) || ((List.range 32).all fun j => decide (ho_F (ho_T k - 4) j = 0) || (decide (ho_R k j < 55) && decide (ho_T (ho_R k j) + 1 = ho_F (ho_T k - 4) j)))) = true := by decide +kernel
  have h8 := List.all_eq_true.mp h9 k (List.mem_range.mpr hk)
  simp only [Bool.or_eq_true, decide_eq_true_eq] at h8
  rcases h8 with h8 | h8
  · omega
  · have h7 := List.all_eq_true.mp h8 j (List.mem_range.mpr hj)
    rw [show ho_T k - 4 = ci by omega] at h7
    simp only [Bool.or_eq_true, Bool.and_eq_true, decide_eq_true_eq] at h7
    rcases h7 with h7 | h7
    · exact absurd h7 hF
    · exact h7
theorem se_getr {f : ho_E} {ci j idx : Nat} {q : vw_C} (h : ho_SE mi T (ci + 5) d pc p1 f) (hc : vwCl[ci]? = some q) (hj : j < q.2.2) (hj2 : j < 32) (hF : ho_F ci j = τ + 1) (hw : ∀ w ∈ u_ws q.1 q.2.1 q.2.2, w ∈ ho_TB) (hlink : Cond.fieldLink mi.1 idx (q.2.1 j).1 (q.2.1 j).2.1 (q.2.1 j).2.2.1 ∈ ho_TB) (hd : decode mi.2.1 p1 = .ok (.getfield idx, 3)) : ho_SE mi T (τ + 1) d pc (p1 + 3) (eR f j) := by
  intro C hC v σ st K hf hst hT hσ kk
  refine h C hC v σ st _ hf hst hT hσ fun x σ hKx hx hσ => ?_
  obtain ⟨hx0, hx1, hx2⟩ := ho_typS hx (ho_ci hc)
  obtain ⟨p, l, e, R, s, m, args, below, meth, c, dC, dI, cA, ad, A, Q, X, ρ, Qf, nc, ns⟩ := C
  obtain ⟨he, hb, hm, ho, hts, hK, hA, hZ, -⟩ := id hC
  intro hT hσ H locs ls hl hP hD hS
  have hg := ho_W_get (cA := cA) (ad := ad) (σ := σ) hx1
  rw [ho_ce_obj hx2] at hg
  have hv := (ho_field (cA := cA) (ad := ad) (σ := σ) hx1 hx2 hc hj).1
  have hR := ho_R_ok x.toNat hx1 ci hx2 j hj2 (by omega)
  refine va_get (D := (dC, dI)) (C := q.1) (T := q.2.1) (N := q.2.2) he hb hts hw ho hK hP x.toNat hg hc j hj (hts _ hlink) (fun _ h9 => h9) (v := .ref (ad (ho_R x.toNat j))) (by rw [hv, ho_fv, if_neg (by omega)]) hd ?_
  have ht : ho_typ (τ + 1) (ho_R x.toNat j : Int) := by
    unfold ho_typ; rw [if_neg (by omega)]; exact Or.inr ⟨by omega, by simpa using hR.1, by rw [← hF]; simpa using hR.2⟩
  have h9 := kk _ σ hKx ht hσ hT hσ H locs ls hl hP hD hS
  simpa [ho_val, ho_ad] using h9
end
