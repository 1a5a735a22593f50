section
variable {p : Program} {l : Launch} {e : Env} {R : Room} {s : State} {m : MethodId} {args : Array Value} {below : List Frame} {meth : Method} {c : Code} {H : Heap} {locs : List Loc} {cells slots : Nat} {T : State}
/-- from the exceptions' block -/
theorem vx_callSN (X : Stand p l e R s m args below meth c T locs cells slots) (hexec : p.tables.exec = Jvm.exec) {own : String} {index : Nat} {host : String} {y : MethodName} {bytes : ByteArray} {maxL : Nat} {ret : Option FieldType}
    (hown : s.vm.findClass own = some m.cls) (hlink : (Cond.methodLinkNest own index y host).before args s = true) (hstat : (Cond.static y).before args s = true) (hinit : (Cond.initialized y.cls).before args s = true)
    (hcode : (Cond.code y bytes maxL ret).before args s = true) (hy : y.cls ≠ "java/lang/invoke/MethodHandle" ∧ y.cls ≠ "java/lang/invoke/VarHandle")
    {W : Nat} {Pre : Pt → Array Value → Prop} {Post : Pt → Array Value → Option Value → Pt → Prop} {PostX : Pt → Array Value → Addr → Pt → Prop} (hK : vx_Back l R p e below s args y 3 W Pre Post PostX)
    {g : JFrame} (hg : g.method = m) (hsize : g.locals.size = c.maxLocals) {argsL rest : List Value} (hlen : ∀ sig, parseMethodDescriptor y.desc = some sig → argsL.length = sig.parameters.length)
    (hstack : g.stack = argsL.reverse ++ rest) (hW : 2 * g.monitorRoom + (rest.map fun v => v.category).sum ≤ W) (hdg : decode c.code g.pc = .ok (.invokestatic index, 3))
    (hpre : ∀ vm₁, s.WarmedH vm₁ → Pre ⟨T.setVm vm₁, locs, cells, slots⟩ argsL.toArray) :
    (∃ (v : Option Value) (vm₁ : Vm) (B : Pt), s.WarmedH vm₁ ∧ Stand p l e R s m args below meth c B.U B.locs B.cells B.slots ∧ Post ⟨T.setVm vm₁, locs, cells, slots⟩ argsL.toArray v B ∧
      ∀ target, Steps p.tables e below (B.U.setTop { g with pc := g.pc + 3, stack := v.toList ++ rest }) target → Steps p.tables e below (T.setTop g) target) ∨
    (∃ (q : Addr) (vm₁ : Vm) (B : Pt), s.WarmedH vm₁ ∧ Stand p l e R s m args below meth c B.U B.locs B.cells B.slots ∧ PostX ⟨T.setVm vm₁, locs, cells, slots⟩ argsL.toArray q B ∧
      Steps p.tables e below (T.setTop g) ((B.U.setTop { g with stack := rest }).pushFrame (.throwing q))) := by
  obtain ⟨mk, hnamed⟩ := Cond.code_named hcode
  obtain ⟨methM, cM, hmethM, -, -, -, -, -, -, hsigM⟩ := Cond.code_spec hnamed hcode
  have hstatic : methM.isStatic = true := Cond.static_spec hnamed hmethM hstat
  obtain ⟨kP, hkP, -⟩ := className_of_methodNamed hnamed
  have hinitP : kP.init = .initialized := Cond.initialized_spec (findClass_of_methodNamed hnamed) hkP hinit
  obtain ⟨vm₁, X₁, hstep₁⟩ := X.invokestaticNest hexec hown hlink hnamed hmethM hstatic hkP hinitP hy (g := g) hg (argsL := argsL) (rest := rest) (hlen _ hsigM) hstack hdg
  rcases hK m meth c ⟨T.setVm vm₁, locs, cells, slots⟩ { g with stack := rest } (.invokestatic index) mk argsL.toArray X₁ hg hsize hdg hW (X₁.named hnamed) (hpre vm₁ X₁.warmed) with ⟨v, B, X', hpost, hsteps⟩ | ⟨q, B, X', hpost, hsteps⟩
  · exact Or.inl ⟨v, vm₁, B, X₁.warmed, X', hpost, fun target h => hstep₁ _ fun acts => by rw [doInvoke_state]; exact hsteps.trans h⟩
  · exact Or.inr ⟨q, vm₁, B, X₁.warmed, X', hpost, hstep₁ _ fun acts => by rw [doInvoke_state]; exact hsteps⟩
/-- follows vx_out, with the two counts -/
theorem hq_out {A0 : Nat → Prop} {ls : Array Slot} {rest : List Value} {Qc : Array Value → State → Outcome → State → Prop} {XC : String → State → State → Prop} {free : Addr → Prop} {pc : Nat} {E : String} {ce : Cell} {q : Addr} (hout : ∀ x ∈ c.exceptionTable.toList, covers x pc = false) (hlocks : meth.locks = false) (hcell : H[q]? = some ce) (hv : ce.vm = .none) (hcl : s.vm.findClass E = some ce.cls)
    (hx : ∀ t : State, t.heap = H → s.vm.Alike t.vm → XC E s t) (hf : ∀ z ∈ locs, free z.base) (hc : cells ≤ 1) (hs : slots ≤ 6) :
    vx_W p l e R s m args below meth c H locs cells slots (hq_MQ below Qc XC args s free) (F0 m pc ls rest) q := by
  intro T hT X
  obtain ⟨st1, hrun, hend, hW, hsm⟩ := X.leaveThrown q (g := F0 m pc ls rest) rfl rfl rfl hout hlocks
  have hcell9 : (T.setFrames (.throwing q :: below)).heap[q]? = some ce := by
    show T.heap[q]? = some ce
    rw [hT]; exact hcell
  exact ⟨_, st1, .threw q, hrun, hend, Or.inr ⟨q, rfl, E, ce, locs, hx _ hT hW.alike, hcell9, hv, hcl, hW, hsm.mono hc hs, hf⟩⟩
theorem hq_ret {Qc : Array Value → State → Outcome → State → Prop} {XC : String → State → State → Prop} {a : Array Value} {free : Addr → Prop} {g : JFrame} (k : W p l e R s m args below meth c H locs cells slots (MQ below Qc a s 0 0 free) g) : W p l e R s m args below meth c H locs cells slots (hq_MQ below Qc XC a s free) g := by
  intro T hT X
  obtain ⟨t, a1, o, b1, b2, b3, b4⟩ := k T hT X
  exact ⟨t, a1, o, b1, b2, Or.inl ⟨b3, b4⟩⟩
theorem hq_thr {Qc : Array Value → State → Outcome → State → Prop} {XC : String → State → State → Prop} {a : Array Value} {free : Addr → Prop} {g : JFrame} (k : W p l e R s m args below meth c H locs cells slots (vx_MQ below (fun _ _ _ _ => False) XC a s 1 6 free) g) : W p l e R s m args below meth c H locs cells slots (hq_MQ below Qc XC a s free) g := by
  intro T hT X
  obtain ⟨t, a1, o, b1, b2, b3⟩ := k T hT X
  refine ⟨t, a1, o, b1, b2, ?_⟩
  rcases b3 with ⟨h, -⟩ | h
  · exact h.elim
  · exact Or.inr h
end
section
variable {mi : ho_I} {ρ : Nat} {T T' Ta : List Nat} {τ d pc p1 p2 p3 p4 pc' : Nat}
theorem ho_vals_cons (ad : Nat → Nat) (τ : Nat) (Ta : List Nat) (x : Int) (l : List Int) : ho_vals ad (τ :: Ta) (x :: l) = ho_val ad τ x :: ho_vals ad Ta l := rfl
theorem ho_ty_cons {τ : Nat} {Ta : List Nat} {x : Int} {l : List Int} (hx : ho_typ τ x) (h : ho_ty Ta l) : ho_ty (τ :: Ta) (x :: l) := by
  refine ⟨by simp [h.1], fun i t y h1 h2 => ?_⟩
  cases i with
  | zero => cases h1; cases h2; exact hx
  | succ i => exact h.2 i t y h1 h2
theorem ho_ty_nil : ho_ty [] [] := ⟨rfl, fun i t y h1 h2 => by cases h1⟩
theorem sa_nil : ho_SA mi T [] d pc pc aN := fun C hC v σ st K hf hst hT hσ kk => kk [] σ hf ho_ty_nil hσ
theorem sa_cons {f : ho_E} {t : ho_A} (h : ho_SE mi T τ d pc p1 f) (h2 : ho_SA mi T Ta (d + 1) p1 p2 t) : ho_SA mi T (τ :: Ta) d pc p2 (aC f t) := by
  intro C hC v σ st K hf hst hT hσ kk
  refine h C hC v σ st _ hf hst hT hσ fun x σ hKx hx hσ => ?_
  refine h2 C hC v σ _ _ hKx (by simp only [ho_cs, List.map_cons, List.sum_cons, ho_cat] at hst ⊢; omega) hT hσ fun l σ hKl hl hσ => ?_
  have h9 := kk (x :: l) σ hKl (ho_ty_cons hx hl) hσ
  rw [ho_vals_cons, List.reverse_cons, List.append_assoc] at h9
  exact h9
/-- what a callee's contract owes at its start -/
theorem ho_pre {s U : State} {H : Heap} {dC : Nat → ClassId} {dI : Nat → Nat → Nat} {cA : Nat → ClassId} {ad : Nat → Nat} {A : Nat → Prop} {locs : List Loc} {a : List Int} {σ : ho_S} (hA : ∀ q, s.heap.size ≤ q → A q) (hS : va_S A s.heap H locs) (hP : va_P (dC, dI) vwCl (ho_W cA ad σ) H) (hK : va_K (dC, dI) vwCl (ho_tys cA) s) (hD : va_D A (ho_W cA ad σ)) (hZ : ho_st A s s.heap) (hU : U.heap = H) (hW : s.WarmedH U.vm) : ho_Pc dC dI cA ad A Ta a σ (ho_vals ad Ta a).toArray U :=
  ⟨rfl, fun q hq => hA q (by rw [hU] at hq; exact Nat.le_trans hS.1 hq), by rw [hU]; exact hP, va_K.moved hW.alike hK, hD, ho_st_warm hW hZ (by rw [hU]; exact hS.2.1)⟩
/-- behind a call that came back one way or the other -/
theorem ho_post {T9 : List Nat} {M : ho_M} {C : ho_Cx} {v : List Int} {st : List Value} {ρ' : Nat} {K : ho_K} (hC : ho_ok C mi) (hT : ho_ty T v) (hpc : mi.2.2.2.2.2.2.1 pc)
    (kk : ∀ (x : Int) (σ' : ho_S), K x σ' → (ρ' = 0 ∨ ho_typ (ρ' - 1) x) → ho_rng σ' → ho_P C (pc + 3) T v ((ho_rv (ho_ad C) ρ' x).toList ++ st) σ') : match C with
  | (p, l, e, R, s, m, args, below, meth, c, dC, dI, cA, ad, A, Q, X, ρ, Qf, nc, ns) => ∀ (H : Heap) (locs : List Loc) (ls : Array Slot) (st0 : List Value) (U : State) (a : Array Value), ho_ls ad T v ls c.maxLocals → va_S A s.heap H locs → U.heap = H →
    ((∃ (r : Option Value) (vm₁ : Vm) (B : Pt), s.WarmedH vm₁ ∧ Stand p l e R s m args below meth c B.U B.locs B.cells B.slots ∧ PostOf (ho_Qc dC dI cA ad A ρ' K) 0 0 A ⟨U.setVm vm₁, locs, nc, ns⟩ a r B ∧
      ∀ target, Steps p.tables e below (B.U.setTop { (F0 m pc ls st0) with pc := (F0 m pc ls st0).pc + 3, stack := r.toList ++ st }) target → Steps p.tables e below (U.setTop (F0 m pc ls st0)) target) ∨
    (∃ (q : Addr) (vm₁ : Vm) (B : Pt), s.WarmedH vm₁ ∧ Stand p l e R s m args below meth c B.U B.locs B.cells B.slots ∧ vx_Post (ho_XC dC dI cA ad A X) 1 6 A ⟨U.setVm vm₁, locs, nc, ns⟩ a q B ∧
      Steps p.tables e below (U.setTop (F0 m pc ls st0)) ((B.U.setTop { (F0 m pc ls st0) with stack := st }).pushFrame (.throwing q)))) →
    ∃ t, Steps p.tables e below (U.setTop (F0 m pc ls st0)) t ∧ Qf t := by
  obtain ⟨p, l, e, R, s, m, args, below, meth, c, dC, dI, cA, ad, A, Q, X, ρ9, Qf, nc, ns⟩ := C
  obtain ⟨he, hb, hm, ho, hts, hK, hA, hZ, hfr9, hlo9, hRc, hRs, hlk, hst0, hexc, hret, hqr, hzz⟩ := id hC
  intro H locs ls st0 U a hl hS hU h
  rcases h with ⟨r, vm₁, ⟨U', l2, c2, s2⟩, hW₁, X', ⟨g', mk, t, L, e1, e2, hq, h1, hL, h2, h3⟩, st9⟩ | ⟨q, vm₁, ⟨U', l2, c2, s2⟩, hW₁, X', ⟨g', mk, t, L, E, ce, e1, e2, hq, hce, hcv, hcl, h1, hL, h2, h3⟩, st9⟩
  · dsimp only [Pt.U, Pt.locs, Pt.cells, Pt.slots] at X' e1 e2 h1 h2 h3 st9
    subst h1; subst h2; subst h3
    obtain ⟨x, σ', hr9, hKx, hx, ⟨hσ', hP', hD'⟩, hF⟩ := hq
    cases hr9
    have hk9 := vx_keep (st₀ := (U.setVm vm₁).calling g' mk a) hU e1 hS (fun _ _ h => h) (fun _ h => h) hL hF
    obtain ⟨t2, a1, b1⟩ := kk x σ' hKx hx hσ' hT hσ' U'.heap (locs ++ L) ls hl (by rw [e1]; exact hP') hD' hk9.2.2 U' rfl X'
    exact ⟨t2, st9 t2 a1, b1⟩
  · dsimp only [Pt.U, Pt.locs, Pt.cells, Pt.slots] at X' e1 e2 h1 h2 h3 st9 hcl
    subst h1; subst h2; subst h3
    obtain ⟨ec, σ', rfl, hX, ⟨hσ', hP', hD'⟩, hF⟩ := hq
    have hk9 := vx_keep (st₀ := (U.setVm vm₁).calling g' mk a) hU e1 hS (fun _ _ h => h) (fun _ h => h) hL hF
    obtain ⟨t2, a1, b1⟩ := hexc ec σ' U'.heap (locs ++ L) q ce pc T v ls st hpc hX ⟨hσ', by rw [e1]; exact hP', hD'⟩ hk9.2.2 hT hl (by rw [e1]; exact hce) hcv (vx_cls hW₁ hcl) U' rfl X'
    exact ⟨t2, st9.trans a1, b1⟩
abbrev ho_yok (y : MethodName) (n : Nat) : Prop := y.cls ≠ "java/lang/invoke/MethodHandle" ∧ y.cls ≠ "java/lang/invoke/VarHandle" ∧ (parseMethodDescriptor y.desc).map (fun d => d.parameters.length) = some n
theorem se_callS {M : ho_M} {as : ho_A} {y : MethodName} {bytes : ByteArray} {mL fr lo idx : Nat} {ret : Option FieldType} (hM : ho_Met y bytes mL ret fr lo (Ta) (τ + 1) M) (ha : ho_SA mi T (Ta) d pc p1 as) (hd : decode mi.2.1 p1 = .ok (.invokestatic idx, 3)) (w1 : Cond.methodLink mi.1 idx y ∈ ho_TB) (w2 : Cond.static y ∈ ho_TB) (w3 : Cond.initialized y.cls ∈ ho_TB) (w4 : Cond.code y bytes mL ret ∈ ho_TB) (hy : ho_yok y Ta.length) (hd8 : d ≤ 8) (hfr : fr + 1 ≤ mi.2.2.2.1) (hlo : 8 + (mL + 11) + lo ≤ mi.2.2.2.2.1) (hpc : mi.2.2.2.2.2.2.1 p1) : ho_SE mi T τ d pc (p1 + 3) (eK M as) := by
  intro C hC v σ st K hf hst hT hσ kk
  refine ha C hC v σ st _ hf hst hT hσ fun a σ hKa hta hσ => ?_
  have hpost := ho_post (T9 := []) (M := M) (pc := p1) (st := st) (ρ' := (τ + 1)) (K := K) hC hT hpc (fun x σ' hKx hx hσ9 => kk x σ' hKx (hx.resolve_left (by omega)) hσ9)
  obtain ⟨p, l, e, R, s, m, args, below, meth, c, dC, dI, cA, ad, A, Q, X, ρ9, Qf, nc, ns⟩ := C
  obtain ⟨he, hb, hm, ho, hts, hK, hA, hZ, hfr9, hlo9, hRc, hRs, hlk, hst0, hexc, hret, hqr, hzz⟩ := id hC
  intro hT hσ H locs ls hl hP hD hS
  have hMl := hM l dC dI cA ad A a σ (K) X hst0 hta hσ hKa
  have hB := hq_back (R := R) (p := p) (e := e) (below := below) (s := s) (sargs := args) (len := 3) (W9 := 8) hMl ho_blind rfl rfl (Nat.le_trans hfr hfr9) (Nat.le_trans hlo hlo9) (bytes := bytes) (maxL := mL) (ret := ret) (pay_in hts (ho_goodIn w4)) List.mem_cons_self (fun a' U hW => word_at hW (ho_good w3) (hts _ w3))
  intro T9 hT9 X9
  refine hpost H locs ls _ T9 (ho_vals ad Ta a).toArray hl hS hT9 (vx_callS X9 he (own := mi.1) (index := idx) (bytes := bytes) (maxL := mL) (ret := ret) ho (hts _ w1) (hts _ w2) (hts _ w3) (hts _ w4) ⟨hy.1, hy.2.1⟩ hB (g := F0 m p1 ls ((ho_vals ad Ta a).reverse ++ st)) rfl hl.1 (argsL := ho_vals ad Ta a) (rest := st) (fun sig h => by
    have h2 := hy.2.2
    rw [h] at h2
    have h3 : sig.parameters.length = Ta.length := Option.some.inj h2
    rw [h3]
    simp [ho_vals, hta.1]) rfl ?_ (by rw [hb]; exact hd) (fun vm₁ hW₁ => ⟨hRc, hRs, ho_pre (U := T9.setVm vm₁) hA hS hP hK hD hZ hT9 hW₁⟩))
  show 2 * 0 + ho_cs st ≤ 8; omega
theorem se_callN {M : ho_M} {as : ho_A} {y : MethodName} {bytes : ByteArray} {mL fr lo idx : Nat} {ret : Option FieldType} {host : String} (hM : ho_Met y bytes mL ret fr lo (Ta) (τ + 1) M) (ha : ho_SA mi T (Ta) d pc p1 as) (hd : decode mi.2.1 p1 = .ok (.invokestatic idx, 3)) (w1 : Cond.methodLinkNest mi.1 idx y host ∈ ho_NW) (w2 : Cond.static y ∈ ho_TB) (w3 : Cond.initialized y.cls ∈ ho_TB) (w4 : Cond.code y bytes mL ret ∈ ho_TB) (hy : ho_yok y Ta.length) (hd8 : d ≤ 8) (hfr : fr + 1 ≤ mi.2.2.2.1) (hlo : 8 + (mL + 11) + lo ≤ mi.2.2.2.2.1) (hpc : mi.2.2.2.2.2.2.1 p1) : ho_SE mi T τ d pc (p1 + 3) (eK M as) := by
  intro C hC v σ st K hf hst hT hσ kk
  refine ha C hC v σ st _ hf hst hT hσ fun a σ hKa hta hσ => ?_
  have hpost := ho_post (T9 := []) (M := M) (pc := p1) (st := st) (ρ' := (τ + 1)) (K := K) hC hT hpc (fun x σ' hKx hx hσ9 => kk x σ' hKx (hx.resolve_left (by omega)) hσ9)
  obtain ⟨p, l, e, R, s, m, args, below, meth, c, dC, dI, cA, ad, A, Q, X, ρ9, Qf, nc, ns⟩ := C
  obtain ⟨he, hb, hm, ho, hts, hK, hA, hZ, hfr9, hlo9, hRc, hRs, hlk, hst0, hexc, hret, hqr, hzz⟩ := id hC
  intro hT hσ H locs ls hl hP hD hS
  have hMl := hM l dC dI cA ad A a σ (K) X hst0 hta hσ hKa
  have hB := hq_back (R := R) (p := p) (e := e) (below := below) (s := s) (sargs := args) (len := 3) (W9 := 8) hMl ho_blind rfl rfl (Nat.le_trans hfr hfr9) (Nat.le_trans hlo hlo9) (bytes := bytes) (maxL := mL) (ret := ret) (pay_in hts (ho_goodIn w4)) List.mem_cons_self (fun a' U hW => word_at hW (ho_good w3) (hts _ w3))
  intro T9 hT9 X9
  refine hpost H locs ls _ T9 (ho_vals ad Ta a).toArray hl hS hT9 (vx_callSN X9 he (own := mi.1) (index := idx) (host := host) (bytes := bytes) (maxL := mL) (ret := ret) ho (va_Nw.use rfl (hZ.2.2.1 _ w1)) (hts _ w2) (hts _ w3) (hts _ w4) ⟨hy.1, hy.2.1⟩ hB (g := F0 m p1 ls ((ho_vals ad Ta a).reverse ++ st)) rfl hl.1 (argsL := ho_vals ad Ta a) (rest := st) (fun sig h => by
    have h2 := hy.2.2
    rw [h] at h2
    have h3 : sig.parameters.length = Ta.length := Option.some.inj h2
    rw [h3]
    simp [ho_vals, hta.1]) rfl ?_ (by rw [hb]; exact hd) (fun vm₁ hW₁ => ⟨hRc, hRs, ho_pre (U := T9.setVm vm₁) hA hS hP hK hD hZ hT9 hW₁⟩))
  show 2 * 0 + ho_cs st ≤ 8; omega
theorem se_callV {M : ho_M} {as : ho_A} {y : MethodName} {bytes : ByteArray} {mL fr lo idx : Nat} {ret : Option FieldType} {ci : Nat} {q : vw_C} (hM : ho_Met y bytes mL ret fr lo ((ci + 5) :: Ta) (τ + 1) M) (ha : ho_SA mi T ((ci + 5) :: Ta) d pc p1 as) (hd : decode mi.2.1 p1 = .ok (.invokevirtual idx, 3)) (w1 : Cond.methodLink mi.1 idx y ∈ ho_TB) (w2 : Cond.instanceMethod y ∈ ho_TB) (w5 : Cond.selects q.1 y y ∈ ho_TB) (hc : vwCl[ci]? = some q) (w3 : Cond.initialized y.cls ∈ ho_TB) (w4 : Cond.code y bytes mL ret ∈ ho_TB) (hy : ho_yok y Ta.length) (hd8 : d ≤ 8) (hfr : fr + 1 ≤ mi.2.2.2.1) (hlo : 8 + (mL + 11) + lo ≤ mi.2.2.2.2.1) (hpc : mi.2.2.2.2.2.2.1 p1) : ho_SE mi T τ d pc (p1 + 3) (eK M as) := by
  intro C hC v σ st K hf hst hT hσ kk
  refine ha C hC v σ st _ hf hst hT hσ fun a σ hKa hta hσ => ?_
  have hpost := ho_post (T9 := []) (M := M) (pc := p1) (st := st) (ρ' := (τ + 1)) (K := K) hC hT hpc (fun x σ' hKx hx hσ9 => kk x σ' hKx (hx.resolve_left (by omega)) hσ9)
  obtain ⟨p, l, e, R, s, m, args, below, meth, c, dC, dI, cA, ad, A, Q, X, ρ9, Qf, nc, ns⟩ := C
  obtain ⟨he, hb, hm, ho, hts, hK, hA, hZ, hfr9, hlo9, hRc, hRs, hlk, hst0, hexc, hret, hqr, hzz⟩ := id hC
  intro hT hσ H locs ls hl hP hD hS
  have hMl := hM l dC dI cA ad A a σ (K) X hst0 hta hσ hKa
  obtain ⟨x, a', rfl⟩ : ∃ x a', a = x :: a' := by
    cases a with
    | nil => exact absurd hta.1 (by simp)
    | cons x a' => exact ⟨x, a', rfl⟩
  have hx := ho_typS (hta.2 0 _ x rfl rfl) (ho_ci hc)
  have hg := ho_W_get (cA := cA) (ad := ad) (σ := σ) hx.2.1
  rw [ho_ce_obj hx.2.2] at hg
  obtain ⟨cell, hc1, hc2, hc3⟩ := va_recv (D := (dC, dI)) (cl := vwCl) hK hP hc hg
  have hval : ho_val ad (ci + 5) x = .ref (ad x.toNat) := by unfold ho_val; rw [if_neg (by omega)]
  have hB := hq_back (R := R) (p := p) (e := e) (below := below) (s := s) (sargs := args) (len := 3) (W9 := 8) hMl ho_blind rfl rfl (Nat.le_trans hfr hfr9) (Nat.le_trans hlo hlo9) (bytes := bytes) (maxL := mL) (ret := ret) (pay_in hts (ho_goodIn w4)) List.mem_cons_self (fun a' U hW => word_at hW (ho_good w3) (hts _ w3))
  intro T9 hT9 X9
  refine hpost H locs ls _ T9 (Value.ref (ad x.toNat) :: ho_vals ad Ta a').toArray hl hS hT9 (vx_callV X9 he (own := mi.1) (C := q.1) (index := idx) (bytes := bytes) (maxL := mL) (ret := ret) ho (hts _ w1) (hts _ w2) (hts _ w5) (hts _ w4) ⟨hy.1, hy.2.1⟩ hB (b := ad x.toNat) (cellB := cell) (by rw [hT9]; exact hc1) hc2 hc3 (g := F0 m p1 ls ((ho_vals ad ((ci + 5) :: Ta) (x :: a')).reverse ++ st)) rfl hl.1 (argsL := ho_vals ad Ta a') (rest := st) (fun sig h => by
    have h2 := hy.2.2
    rw [h] at h2
    have h3 : sig.parameters.length = Ta.length := Option.some.inj h2
    rw [h3]
    simp [ho_vals, show Ta.length = a'.length by have := hta.1; simpa using this]) ?_ ?_ (by rw [hb]; exact hd) (fun vm₁ hW₁ => ⟨hRc, hRs, ?_⟩))
  · show (ho_vals ad ((ci + 5) :: Ta) (x :: a')).reverse ++ st = _
    rw [ho_vals_cons, hval, List.reverse_cons, List.append_assoc]; rfl
  · show 2 * 0 + ho_cs st ≤ 8; omega
  · have h9 := ho_pre (Ta := (ci + 5) :: Ta) (a := x :: a') (U := T9.setVm vm₁) hA hS hP hK hD hZ hT9 hW₁
    rw [ho_vals_cons, hval] at h9
    exact h9
theorem ss_callS {M : ho_M} {as : ho_A} {y : MethodName} {bytes : ByteArray} {mL fr lo idx : Nat} {ret : Option FieldType} (hM : ho_Met y bytes mL ret fr lo (Ta) 0 M) (ha : ho_SA mi T (Ta) 0 pc p1 as) (hd : decode mi.2.1 p1 = .ok (.invokestatic idx, 3)) (w1 : Cond.methodLink mi.1 idx y ∈ ho_TB) (w2 : Cond.static y ∈ ho_TB) (w3 : Cond.initialized y.cls ∈ ho_TB) (w4 : Cond.code y bytes mL ret ∈ ho_TB) (hy : ho_yok y Ta.length) (hd8 : 0 ≤ 8) (hfr : fr + 1 ≤ mi.2.2.2.1) (hlo : 8 + (mL + 11) + lo ≤ mi.2.2.2.2.1) (hpc : mi.2.2.2.2.2.2.1 p1) : ho_SS mi ρ T T pc (p1 + 3) (zK M as) := by
  intro C hC hr v σ K hf hT hσ kk
  refine ha C hC v σ [] _ hf (Nat.zero_le _) hT hσ fun a σ hKa hta hσ => ?_
  obtain ⟨st, hst9⟩ : ∃ st : List Value, st = [] := ⟨_, rfl⟩
  have hst : ho_cs st ≤ 0 := by rw [hst9]; exact Nat.le_refl _
  rw [← hst9]
  have hpost := ho_post (T9 := []) (M := M) (pc := p1) (st := st) (ρ' := 0) (K := fun _ σ => K v σ) hC hT hpc (fun x σ' hKx hx hσ9 => by subst hst9; exact kk v σ' hKx hT hσ9)
  obtain ⟨p, l, e, R, s, m, args, below, meth, c, dC, dI, cA, ad, A, Q, X, ρ9, Qf, nc, ns⟩ := C
  obtain ⟨he, hb, hm, ho, hts, hK, hA, hZ, hfr9, hlo9, hRc, hRs, hlk, hst0, hexc, hret, hqr, hzz⟩ := id hC
  intro hT hσ H locs ls hl hP hD hS
  have hMl := hM l dC dI cA ad A a σ (fun _ σ => K v σ) X hst0 hta hσ hKa
  have hB := hq_back (R := R) (p := p) (e := e) (below := below) (s := s) (sargs := args) (len := 3) (W9 := 8) hMl ho_blind rfl rfl (Nat.le_trans hfr hfr9) (Nat.le_trans hlo hlo9) (bytes := bytes) (maxL := mL) (ret := ret) (pay_in hts (ho_goodIn w4)) List.mem_cons_self (fun a' U hW => word_at hW (ho_good w3) (hts _ w3))
  intro T9 hT9 X9
  refine hpost H locs ls _ T9 (ho_vals ad Ta a).toArray hl hS hT9 (vx_callS X9 he (own := mi.1) (index := idx) (bytes := bytes) (maxL := mL) (ret := ret) ho (hts _ w1) (hts _ w2) (hts _ w3) (hts _ w4) ⟨hy.1, hy.2.1⟩ hB (g := F0 m p1 ls ((ho_vals ad Ta a).reverse ++ st)) rfl hl.1 (argsL := ho_vals ad Ta a) (rest := st) (fun sig h => by
    have h2 := hy.2.2
    rw [h] at h2
    have h3 : sig.parameters.length = Ta.length := Option.some.inj h2
    rw [h3]
    simp [ho_vals, hta.1]) rfl ?_ (by rw [hb]; exact hd) (fun vm₁ hW₁ => ⟨hRc, hRs, ho_pre (U := T9.setVm vm₁) hA hS hP hK hD hZ hT9 hW₁⟩))
  show 2 * 0 + ho_cs st ≤ 8; omega
theorem ss_callN {M : ho_M} {as : ho_A} {y : MethodName} {bytes : ByteArray} {mL fr lo idx : Nat} {ret : Option FieldType} {host : String} (hM : ho_Met y bytes mL ret fr lo (Ta) 0 M) (ha : ho_SA mi T (Ta) 0 pc p1 as) (hd : decode mi.2.1 p1 = .ok (.invokestatic idx, 3)) (w1 : Cond.methodLinkNest mi.1 idx y host ∈ ho_NW) (w2 : Cond.static y ∈ ho_TB) (w3 : Cond.initialized y.cls ∈ ho_TB) (w4 : Cond.code y bytes mL ret ∈ ho_TB) (hy : ho_yok y Ta.length) (hd8 : 0 ≤ 8) (hfr : fr + 1 ≤ mi.2.2.2.1) (hlo : 8 + (mL + 11) + lo ≤ mi.2.2.2.2.1) (hpc : mi.2.2.2.2.2.2.1 p1) : ho_SS mi ρ T T pc (p1 + 3) (zK M as) := by
  intro C hC hr v σ K hf hT hσ kk
  refine ha C hC v σ [] _ hf (Nat.zero_le _) hT hσ fun a σ hKa hta hσ => ?_
  obtain ⟨st, hst9⟩ : ∃ st : List Value, st = [] := ⟨_, rfl⟩
  have hst : ho_cs st ≤ 0 := by rw [hst9]; exact Nat.le_refl _
  rw [← hst9]
  have hpost := ho_post (T9 := []) (M := M) (pc := p1) (st := st) (ρ' := 0) (K := fun _ σ => K v σ) hC hT hpc (fun x σ' hKx hx hσ9 => by subst hst9; exact kk v σ' hKx hT hσ9)
  obtain ⟨p, l, e, R, s, m, args, below, meth, c, dC, dI, cA, ad, A, Q, X, ρ9, Qf, nc, ns⟩ := C
  obtain ⟨he, hb, hm, ho, hts, hK, hA, hZ, hfr9, hlo9, hRc, hRs, hlk, hst0, hexc, hret, hqr, hzz⟩ := id hC
  intro hT hσ H locs ls hl hP hD hS
  have hMl := hM l dC dI cA ad A a σ (fun _ σ => K v σ) X hst0 hta hσ hKa
  have hB := hq_back (R := R) (p := p) (e := e) (below := below) (s := s) (sargs := args) (len := 3) (W9 := 8) hMl ho_blind rfl rfl (Nat.le_trans hfr hfr9) (Nat.le_trans hlo hlo9) (bytes := bytes) (maxL := mL) (ret := ret) (pay_in hts (ho_goodIn w4)) List.mem_cons_self (fun a' U hW => word_at hW (ho_good w3) (hts _ w3))
  intro T9 hT9 X9
  refine hpost H locs ls _ T9 (ho_vals ad Ta a).toArray hl hS hT9 (vx_callSN X9 he (own := mi.1) (index := idx) (host := host) (bytes := bytes) (maxL := mL) (ret := ret) ho (va_Nw.use rfl (hZ.2.2.1 _ w1)) (hts _ w2) (hts _ w3) (hts _ w4) ⟨hy.1, hy.2.1⟩ hB (g := F0 m p1 ls ((ho_vals ad Ta a).reverse ++ st)) rfl hl.1 (argsL := ho_vals ad Ta a) (rest := st) (fun sig h => by
    have h2 := hy.2.2
    rw [h] at h2
    have h3 : sig.parameters.length = Ta.length := Option.some.inj h2
    rw [h3]
    simp [ho_vals, hta.1]) rfl ?_ (by rw [hb]; exact hd) (fun vm₁ hW₁ => ⟨hRc, hRs, ho_pre (U := T9.setVm vm₁) hA hS hP hK hD hZ hT9 hW₁⟩))
  show 2 * 0 + ho_cs st ≤ 8; omega
theorem ss_callV {M : ho_M} {as : ho_A} {y : MethodName} {bytes : ByteArray} {mL fr lo idx : Nat} {ret : Option FieldType} {ci : Nat} {q : vw_C} (hM : ho_Met y bytes mL ret fr lo ((ci + 5) :: Ta) 0 M) (ha : ho_SA mi T ((ci + 5) :: Ta) 0 pc p1 as) (hd : decode mi.2.1 p1 = .ok (.invokevirtual idx, 3)) (w1 : Cond.methodLink mi.1 idx y ∈ ho_TB) (w2 : Cond.instanceMethod y ∈ ho_TB) (w5 : Cond.selects q.1 y y ∈ ho_TB) (hc : vwCl[ci]? = some q) (w3 : Cond.initialized y.cls ∈ ho_TB) (w4 : Cond.code y bytes mL ret ∈ ho_TB) (hy : ho_yok y Ta.length) (hd8 : 0 ≤ 8) (hfr : fr + 1 ≤ mi.2.2.2.1) (hlo : 8 + (mL + 11) + lo ≤ mi.2.2.2.2.1) (hpc : mi.2.2.2.2.2.2.1 p1) : ho_SS mi ρ T T pc (p1 + 3) (zK M as) := by
  intro C hC hr v σ K hf hT hσ kk
  refine ha C hC v σ [] _ hf (Nat.zero_le _) hT hσ fun a σ hKa hta hσ => ?_
  obtain ⟨st, hst9⟩ : ∃ st : List Value, st = [] := ⟨_, rfl⟩
  have hst : ho_cs st ≤ 0 := by rw [hst9]; exact Nat.le_refl _
  rw [← hst9]
  have hpost := ho_post (T9 := []) (M := M) (pc := p1) (st := st) (ρ' := 0) (K := fun _ σ => K v σ) hC hT hpc (fun x σ' hKx hx hσ9 => by subst hst9; exact kk v σ' hKx hT hσ9)
  obtain ⟨p, l, e, R, s, m, args, below, meth, c, dC, dI, cA, ad, A, Q, X, ρ9, Qf, nc, ns⟩ := C
  obtain ⟨he, hb, hm, ho, hts, hK, hA, hZ, hfr9, hlo9, hRc, hRs, hlk, hst0, hexc, hret, hqr, hzz⟩ := id hC
  intro hT hσ H locs ls hl hP hD hS
  have hMl := hM l dC dI cA ad A a σ (fun _ σ => K v σ) X hst0 hta hσ hKa
  obtain ⟨x, a', rfl⟩ : ∃ x a', a = x :: a' := by
    cases a with
    | nil => exact absurd hta.1 (by simp)
    | cons x a' => exact ⟨x, a', rfl⟩
  have hx := ho_typS (hta.2 0 _ x rfl rfl) (ho_ci hc)
  have hg := ho_W_get (cA := cA) (ad := ad) (σ := σ) hx.2.1
  rw [ho_ce_obj hx.2.2] at hg
  obtain ⟨cell, hc1, hc2, hc3⟩ := va_recv (D := (dC, dI)) (cl := vwCl) hK hP hc hg
  have hval : ho_val ad (ci + 5) x = .ref (ad x.toNat) := by unfold ho_val; rw [if_neg (by omega)]
  have hB := hq_back (R := R) (p := p) (e := e) (below := below) (s := s) (sargs := args) (len := 3) (W9 := 8) hMl ho_blind rfl rfl (Nat.le_trans hfr hfr9) (Nat.le_trans hlo hlo9) (bytes := bytes) (maxL := mL) (ret := ret) (pay_in hts (ho_goodIn w4)) List.mem_cons_self (fun a' U hW => word_at hW (ho_good w3) (hts _ w3))
  intro T9 hT9 X9
  refine hpost H locs ls _ T9 (Value.ref (ad x.toNat) :: ho_vals ad Ta a').toArray hl hS hT9 (vx_callV X9 he (own := mi.1) (C := q.1) (index := idx) (bytes := bytes) (maxL := mL) (ret := ret) ho (hts _ w1) (hts _ w2) (hts _ w5) (hts _ w4) ⟨hy.1, hy.2.1⟩ hB (b := ad x.toNat) (cellB := cell) (by rw [hT9]; exact hc1) hc2 hc3 (g := F0 m p1 ls ((ho_vals ad ((ci + 5) :: Ta) (x :: a')).reverse ++ st)) rfl hl.1 (argsL := ho_vals ad Ta a') (rest := st) (fun sig h => by
    have h2 := hy.2.2
    rw [h] at h2
    have h3 : sig.parameters.length = Ta.length := Option.some.inj h2
    rw [h3]
    simp [ho_vals, show Ta.length = a'.length by have := hta.1; simpa using this]) ?_ ?_ (by rw [hb]; exact hd) (fun vm₁ hW₁ => ⟨hRc, hRs, ?_⟩))
  · show (ho_vals ad ((ci + 5) :: Ta) (x :: a')).reverse ++ st = _
    rw [ho_vals_cons, hval, List.reverse_cons, List.append_assoc]; rfl
  · show 2 * 0 + ho_cs st ≤ 8; omega
  · have h9 := ho_pre (Ta := (ci + 5) :: Ta) (a := x :: a') (U := T9.setVm vm₁) hA hS hP hK hD hZ hT9 hW₁
    rw [ho_vals_cons, hval] at h9
    exact h9
end
