/-! ===== pure states, and how a cell, a world and the locals stand for them ===== -/
abbrev ho_S : Type := Nat → Nat → Int
abbrev ho_K : Type := Int → ho_S → Prop
abbrev ho_X : Type := Nat → ho_S → Prop
abbrev ho_E : Type := List Int → ho_S → ho_K → ho_X → Prop
abbrev ho_A : Type := List Int → ho_S → (List Int → ho_S → Prop) → ho_X → Prop
abbrev ho_C : Type := List Int → ho_S → (ho_S → Prop) → (ho_S → Prop) → ho_X → Prop
abbrev ho_Z : Type := List Int → ho_S → (List Int → ho_S → Prop) → ho_K → ho_X → Prop
abbrev ho_M : Type := List Int → ho_S → ho_K → ho_X → Prop
def ho_w (x : Int) : Int := (x + 2147483648) % 4294967296 - 2147483648
def ho_in (x : Int) : Prop := -2147483648 ≤ x ∧ x < 2147483648
theorem ho_w_in (x : Int) : ho_in (ho_w x) := by unfold ho_in ho_w; omega
theorem ho_w_eq {x : Int} (h : ho_in x) : ho_w x = x := by unfold ho_in at h; unfold ho_w; omega
theorem ho_bm (x : Int) : Int.bmod x 4294967296 = ho_w x := by
  rw [Int.bmod_def]; unfold ho_w; split <;> omega
theorem ho_ti (x : Int) : (Int32.ofInt x).toInt = ho_w x := by
  rw [Int32.toInt_ofInt]; exact ho_bm x
theorem ho_oi (x : Int32) : Int32.ofInt x.toInt = x := Int32.ofInt_toInt x
theorem ho_ti_in (x : Int32) : ho_in x.toInt := by
  have h := ho_w_in x.toInt
  rw [← ho_ti, ho_oi] at h
  exact h
theorem ho_ofw (x : Int) : Int32.ofInt (ho_w x) = Int32.ofInt x := by
  rw [← ho_ti, ho_oi]
theorem ho_add (a b : Int) : Int32.ofInt a + Int32.ofInt b = Int32.ofInt (ho_w (a + b)) := by
  rw [ho_ofw, Int32.ofInt_add]
theorem ho_sub (a b : Int) : Int32.ofInt a - Int32.ofInt b = Int32.ofInt (ho_w (a - b)) := by
  rw [ho_ofw, Int32.ofInt_sub]
theorem ho_mul (a b : Int) : Int32.ofInt a * Int32.ofInt b = Int32.ofInt (ho_w (a * b)) := by
  rw [ho_ofw, Int32.ofInt_mul]
theorem ho_div {a b : Int} (ha : ho_in a) (hb : ho_in b) : Int32.ofInt a / Int32.ofInt b = Int32.ofInt (ho_w (Int.tdiv a b)) := by
  refine Int32.toInt_inj.mp ?_
  rw [Int32.toInt_div, ho_ti, ho_ti, ho_ti, ho_w_eq ha, ho_w_eq hb, ho_w_eq (ho_w_in _)]
  exact ho_bm _
theorem ho_lt {a b : Int} (ha : ho_in a) (hb : ho_in b) : Int32.ofInt a < Int32.ofInt b ↔ a < b := by
  rw [Int32.lt_iff_toInt_lt, ho_ti, ho_ti, ho_w_eq ha, ho_w_eq hb]
theorem ho_le {a b : Int} (ha : ho_in a) (hb : ho_in b) : Int32.ofInt a ≤ Int32.ofInt b ↔ a ≤ b := by
  rw [Int32.le_iff_toInt_le, ho_ti, ho_ti, ho_w_eq ha, ho_w_eq hb]
theorem ho_eq {a b : Int} (ha : ho_in a) (hb : ho_in b) : Int32.ofInt a = Int32.ofInt b ↔ a = b := by
  rw [← Int32.toInt_inj, ho_ti, ho_ti, ho_w_eq ha, ho_w_eq hb]
theorem ho_clamp {a : Int} (ha : ho_in a) : (Int32.ofInt a).toNatClampNeg = a.toNat := by
  show (Int32.ofInt a).toInt.toNat = _
  rw [ho_ti, ho_w_eq ha]
theorem ho_vpin {i : Int} {n : Nat} (hi : ho_in i) (h0 : 0 ≤ i) (hn : i < n) : vp_in (Int32.ofInt i) n := by
  rw [vp_in_iff, ho_ti, ho_w_eq hi]; exact ⟨h0, hn⟩
-- the cells: (kind, size); kinds 0 int[], 1 boolean[], 2 char[], 3 long[], 4 and more: an object of the class of that number in vwCl
def ho_SH : List (Nat × Nat) := [(10, 14), (4, 7), (9, 5), (8, 2), (6, 5), (6, 5), (5, 5), (7, 2),
  (0, 4800), (0, 4800), (0, 4812), (0, 4812), (0, 12), (0, 16), (0, 16), (0, 16), (0, 16), (0, 16), (0, 4800), (0, 80), (0, 8), (0, 8), (0, 61), (0, 61), (0, 61), (2, 2400), (0, 16), (0, 384), (1, 48), (0, 16),
  (11, 32), (0, 12), (0, 4800), (0, 4800), (0, 4800), (0, 4800), (0, 16), (0, 16), (0, 16), (0, 16), (0, 16), (0, 48), (0, 2880), (0, 48), (0, 384), (0, 2), (0, 18), (0, 1080), (0, 18), (0, 1080), (0, 18), (0, 64), (0, 64), (2, 6000), (3, 1)]
def ho_T (k : Nat) : Nat := (ho_SH.getD k (0, 0)).1
def ho_N (k : Nat) : Nat := (ho_SH.getD k (0, 0)).2
-- the fields that hold references: which cell (the model's: by its fields' order)
def ho_RT : List (List Nat) := [[1, 2, 3, 4, 5, 6, 7, 26, 27, 28, 29], [8, 9, 10, 11, 12], [13, 14, 15, 16, 17], [18, 19], [0, 0, 20], [0, 0, 21], [22, 23, 24], [25], [], [], [], [], [], [], [], [], [], [], [], [], [], [], [], [], [], [], [], [], [], [], [0, 0, 31, 32, 33, 0, 34, 35, 0, 36, 37, 38, 39, 40, 41, 42, 43, 0, 44, 45, 46, 47, 48, 49, 50, 0, 0, 0, 51, 52, 0, 53], [], [], [], [], [], [], [], [], [], [], [], [], [], [], [], [], [], [], [], [], [], [], [], []]
def ho_R (k j : Nat) : Nat := (ho_RT.getD k []).getD j 0
-- the fields' tags, by class: 0 a number, else 1 more than the kind of the cell that it refers to
def ho_FTl : List (List Nat) := [[1, 1, 1, 1, 1, 0, 0], [1, 1, 1, 0, 0], [0, 0, 1, 0, 0], [3, 0], [1, 1], [1, 1, 1, 1, 1], [5, 10, 9, 7, 7, 6, 8, 1, 1, 2, 1, 0, 0, 0], [0, 0, 1, 1, 1, 0, 1, 1, 0, 1, 1, 1, 1, 1, 1, 1, 1, 0, 1, 1, 1, 1, 1, 1, 1, 0, 0, 0, 1, 1, 0, 3]]
def ho_F (ci j : Nat) : Nat := (ho_FTl.getD ci []).getD j 0
def ho_fv (ad : Nat → Nat) (σ : ho_S) (k ci j : Nat) : Value := if ho_F ci j = 0 then .int (Int32.ofInt (σ k j)) else .ref (ad (ho_R k j))
def ho_ce (cA : Nat → ClassId) (ad : Nat → Nat) (σ : ho_S) (k : Nat) : va_E :=
  if ho_T k < 3 then .inl (cA (ho_T k), ho_N k, .inl (fun j => Int32.ofInt (σ k j)))
  else if ho_T k = 3 then .inl (cA 3, ho_N k, .inr (.inl (fun j => Int64.ofInt (σ k j))))
  else .inr (ho_T k - 4, (List.range (ho_N k)).map (ho_fv ad σ k (ho_T k - 4)))
def ho_W (cA : Nat → ClassId) (ad : Nat → Nat) (σ : ho_S) : va_W := (List.range 55).map (fun k => (ad k, ho_ce cA ad σ k))
theorem ho_W_get {cA : Nat → ClassId} {ad : Nat → Nat} {σ : ho_S} {k : Nat} (hk : k < 55) : (ho_W cA ad σ)[k]? = some (ad k, ho_ce cA ad σ k) := by
  simp [ho_W, hk]
def ho_up (σ : ho_S) (k j : Nat) (v : Int) : ho_S := fun k' j' => if k' = k ∧ j' = j then v else σ k' j'
theorem ho_ce_off {cA : Nat → ClassId} {ad : Nat → Nat} {σ σ' : ho_S} {k : Nat} (h : ∀ j, σ' k j = σ k j) : ho_ce cA ad σ' k = ho_ce cA ad σ k := by
  have e : σ' k = σ k := funext h
  have e2 : ∀ ci, ho_fv ad σ' k ci = ho_fv ad σ k ci := fun ci => by funext j; simp only [ho_fv, h]
  simp only [ho_ce, e, e2]
theorem ho_W_set {cA : Nat → ClassId} {ad : Nat → Nat} {σ σ' : ho_S} {k : Nat} {e : va_E} (he : e = ho_ce cA ad σ' k) (ho : ∀ k', k' ≠ k → ∀ j, σ' k' j = σ k' j) : (ho_W cA ad σ).set k (ad k, e) = ho_W cA ad σ' := by
  refine List.ext_getElem? fun i => ?_
  rw [List.getElem?_set]
  by_cases h : k = i
  · subst h
    simp only [if_pos rfl]
    have hl : k < (ho_W cA ad σ).length ↔ k < 55 := by simp [ho_W]
    by_cases hk : k < 55
    · rw [if_pos (hl.mpr hk), he]
      exact (ho_W_get hk).symm
    · rw [if_neg (fun q => hk (hl.mp q))]
      have h9 : (ho_W cA ad σ')[k]? = none := by simp [ho_W]; omega
      exact h9.symm
  · rw [if_neg h]
    by_cases hi : i < 55
    · rw [ho_W_get hi, ho_W_get hi, ho_ce_off (ho i (fun q => h q.symm))]
    · simp [ho_W, hi]
theorem ho_up_off {σ : ho_S} {k j : Nat} {v : Int} : ∀ k', k' ≠ k → ∀ j', ho_up σ k j v k' j' = σ k' j' := fun k' h j' => by
  simp [ho_up, h]
def ho_rng (σ : ho_S) : Prop := ∀ k j, ho_in (σ k j)
theorem ho_rng_up {σ : ho_S} (h : ho_rng σ) {k j : Nat} {v : Int} (hv : ho_in v) : ho_rng (ho_up σ k j v) := fun k' j' => by
  unfold ho_up; split
  · exact hv
  · exact h k' j'
def ho_tys (cA : Nat → ClassId) : List (ClassId × FieldType) := [(cA 0, .int), (cA 1, .boolean), (cA 2, .char), (cA 3, .long)]
-- tags of locals and values: 0 a number, else 1 more than the kind of the cell
def ho_val (ad : Nat → Nat) (τ : Nat) (x : Int) : Value := if τ = 0 then .int (Int32.ofInt x) else .ref (ad x.toNat)
def ho_typ (τ : Nat) (x : Int) : Prop := if τ = 0 then ho_in x else (τ = 99 ∧ x = 60) ∨ (0 ≤ x ∧ x.toNat < 55 ∧ ho_T x.toNat + 1 = τ)
theorem ho_cat (ad : Nat → Nat) (τ : Nat) (x : Int) : (ho_val ad τ x).category = 1 := by
  unfold ho_val; split <;> rfl
def ho_ty (T : List Nat) (v : List Int) : Prop := T.length = v.length ∧ ∀ (i τ : Nat) (x : Int), T[i]? = some τ → v[i]? = some x → ho_typ τ x
def ho_ls (ad : Nat → Nat) (T : List Nat) (v : List Int) (ls : Array Slot) (nL : Nat) : Prop := ls.size = nL ∧ lv_wf ls ∧ ∀ (i τ : Nat) (x : Int), T[i]? = some τ → v[i]? = some x → ls[i]? = some (.val (ho_val ad τ x))
theorem ho_ty_get {T : List Nat} {v : List Int} {i τ : Nat} (h : ho_ty T v) (hi : T[i]? = some τ) : v[i]? = some (v.getD i 0) := by
  have h1 : i < T.length := (List.getElem?_eq_some_iff.mp hi).1
  rw [h.1] at h1
  rw [List.getD_eq_getElem?_getD, List.getElem?_eq_getElem h1]; rfl
theorem ho_typ_get {T : List Nat} {v : List Int} {i τ : Nat} (h : ho_ty T v) (hi : T[i]? = some τ) : ho_typ τ (v.getD i 0) := h.2 i τ _ hi (ho_ty_get h hi)
-- what a list of values is to the kit: its locals, listed
def ho_ll (ad : Nat → Nat) (T : List Nat) (v : List Int) : List (Nat × Value) := (List.range T.length).map (fun i => (i, ho_val ad (T.getD i 0) (v.getD i 0)))
theorem ho_ls_has {ad : Nat → Nat} {T : List Nat} {v : List Int} {ls : Array Slot} {nL : Nat} (h : ho_ls ad T v ls nL) (hT : ho_ty T v) : lv_has ls nL (ho_ll ad T v) := by
  refine ⟨h.1, h.2.1, fun q hq => ?_⟩
  obtain ⟨i, hi, rfl⟩ := List.mem_map.mp hq
  have hi := List.mem_range.mp hi
  have e : T[i]? = some (T.getD i 0) := by rw [List.getD_eq_getElem?_getD, List.getElem?_eq_getElem hi]; rfl
  exact h.2.2 i _ _ e (ho_ty_get hT e)
/-- behind a store: the new list -/
theorem ho_ls_set {ad : Nat → Nat} {T T' : List Nat} {v v' : List Int} {ls' : Array Slot} {nL i : Nat} {τ : Nat} {x : Int} (hT : ho_ty T v)
    (h : lv_has ls' nL ((i, ho_val ad τ x) :: (ho_ll ad T v).filter (fun q => !(q.1 == i) && !(q.1 + 1 == i && q.2.category == 2))))
    (hn : ∀ (j σ : Nat) (y : Int), T'[j]? = some σ → v'[j]? = some y → (j = i ∧ σ = τ ∧ y = x) ∨ (j ≠ i ∧ T[j]? = some σ ∧ v[j]? = some y)) : ho_ls ad T' v' ls' nL := by
  refine ⟨h.1, h.2.1, fun j σ y h1 h2 => ?_⟩
  rcases hn j σ y h1 h2 with ⟨rfl, rfl, rfl⟩ | ⟨hj, h3, h4⟩
  · exact h.2.2 _ List.mem_cons_self
  · refine h.2.2 (j, ho_val ad σ y) (List.mem_cons_of_mem _ (List.mem_filter.mpr ⟨List.mem_map.mpr ⟨j, List.mem_range.mpr (List.getElem?_eq_some_iff.mp h3).1, ?_⟩, ?_⟩))
    · have e1 : T.getD j 0 = σ := by rw [List.getD_eq_getElem?_getD, h3]; rfl
      have e2 : v.getD j 0 = y := by rw [List.getD_eq_getElem?_getD, h4]; rfl
      rw [e1, e2]
    · simp [hj, ho_cat]
/-! ===== the words, the launch's other facts ===== -/
def ho_TB : List Cond := lw_tbl.filter goodWord
theorem ho_mem {w : Cond} (h : w ∈ lw_tbl) (hg : goodWord w = true) : w ∈ ho_TB := List.mem_filter.mpr ⟨h, hg⟩
theorem ho_TB_in {w : Cond} (h : w ∈ ho_TB) : w ∈ lw_tbl := (List.mem_filter.mp h).1
theorem ho_good {w : Cond} (h : w ∈ ho_TB) : (w.onTables && w.keeps) = true ∨ ∃ ty, w = .arrayClass ty := good_of_word (List.mem_filter.mp h).2
theorem ho_goodIn {w : Cond} (h : w ∈ ho_TB) : GoodIn ho_TB (w :: ho_TB) := fun q hq => (List.mem_cons.mp hq).elim (fun e => by rw [e]; exact ⟨h, ho_good h⟩) (fun h9 => ⟨h9, ho_good h9⟩)
def ho_nwk : Cond → Bool
  | .methodLinkNest .. => true
  | .castable .. => true
  | .declares _ => true
  | _ => false
def ho_NW : List Cond := lw_tbl.filter ho_nwk
theorem ho_nw_warm {w : Cond} (hk : ho_nwk w = true) {s U : State} (hW : s.WarmedH U.vm) (h : va_Nw w s) : va_Nw w U := by
  cases w <;> simp [ho_nwk] at hk
  all_goals first | exact va_Nw.warmM hW h | exact va_Nw.warmC hW h | exact va_Nw.warmD hW h
theorem ho_nw_on {w : Cond} (hk : ho_nwk w = true) : w.onTables = true := by
  cases w <;> simp [ho_nwk] at hk
  all_goals rfl
def ho_STR : List (Nat × String) := [(82, "frames is out of range"), (93, "there are 12 shots"), (322, "no such place"), (108, "not so many frames"), (326, "count is below 1"), (122, "not so many frames, or no such place"), (324, "no such shot or frame"), (138, "a frame is in the film"), (328, "count is out of range"), (158, "there are 16 captions"), (330, "no such caption"), (178, "look is out of range"), (198, "place is below 0"), (332, "no such tongue"), (209, "sign is no such code point"), (213, "the text has 60 signs"), (221, "the text is empty"), (226, "no such sign"), (241, "no such row"), (249, "width or speed is out of range"), (334, "no tongue that is made from the first one"), (257, "a text is empty"), (336, "no such rule"), (290, "name is out of range"), (295, "the rule is not broken"), (338, "format is out of range"), (316, "no such char")]
def ho_st (A : Nat → Prop) (U : State) (H : Heap) : Prop := vx_Zq Bundle.tN "UNASSIGNED_STACK" Bundle.steD A U H ∧ vx_Zq Bundle.tN "SUPPRESSED_SENTINEL" Bundle.listD A U H ∧ (∀ w ∈ ho_NW, va_Nw w U) ∧ ∀ q ∈ ho_STR, ∃ sa : Nat, vk_R RX6 q.1 q.2 sa U
theorem ho_st_warm {A : Nat → Prop} {s U : State} {H H1 : Heap} (hW : s.WarmedH U.vm) (h : ho_st A s H) (hq : ∀ a : Nat, a < H.size → ¬ A a → H1[a]? = H[a]?) : ho_st A U H1 := by
  obtain ⟨h1, h2, h3, h4⟩ := h
  refine ⟨vx_Zq.moved hW.alike (h1.kept hq), vx_Zq.moved hW.alike (h2.kept hq), fun w hw => ho_nw_warm (List.mem_filter.mp hw).2 hW (h3 w hw), fun q hq => ?_⟩
  obtain ⟨sa, h⟩ := h4 q hq
  exact ⟨sa, vk_R.warm hW h⟩
theorem ho_st_same {A : Nat → Prop} {s U : State} {H : Heap} (hv : U.vm = s.vm) (h : ho_st A s H) : ho_st A U H :=
  ho_st_warm (by rw [hv]; exact State.WarmedH.refl s) h (fun _ _ _ => rfl)
/-! ===== a method's contract: it returns, and nothing is new, or it throws, and one cell of six slots is ===== -/
def hq_Q (Qc : Array Value → State → Outcome → State → Prop) (XC : String → State → State → Prop) (free : Addr → Prop) : Array Value → State → Outcome → State → Prop := fun a st o t =>
  (Qc a st o t ∧ ∃ L, FrameEnd st o t L 0 0 ∧ ∀ q ∈ L, free q.base) ∨ ∃ q, o = .threw q ∧ vx_T XC st q t 1 6 free
def hq_MQ (below : List Frame) (Qc : Array Value → State → Outcome → State → Prop) (XC : String → State → State → Prop) (a : Array Value) (s : State) (free : Addr → Prop) : State → Prop := fun t =>
  ∃ o, t.status = .running ∧ Ended t below o ∧ hq_Q Qc XC free a s o t
def ho_rv (ad : Nat → Nat) (ρ : Nat) (r : Int) : Option Value := if ρ = 0 then none else some (ho_val ad (ρ - 1) r)
def ho_ex (ec : Nat) : String := if ec = 0 then "java/lang/IllegalArgumentException" else if ec = 1 then "java/lang/IllegalStateException" else "java/lang/IndexOutOfBoundsException"
def ho_at (dC : Nat → ClassId) (dI : Nat → Nat → Nat) (cA : Nat → ClassId) (ad : Nat → Nat) (A : Nat → Prop) (σ : ho_S) (H : Heap) : Prop := ho_rng σ ∧ va_P (dC, dI) vwCl (ho_W cA ad σ) H ∧ va_D A (ho_W cA ad σ)
def ho_Qc (dC : Nat → ClassId) (dI : Nat → Nat → Nat) (cA : Nat → ClassId) (ad : Nat → Nat) (A : Nat → Prop) (ρ : Nat) (Q : ho_K) : Array Value → State → Outcome → State → Prop := fun _ st o t =>
  ∃ (r : Int) (σ : ho_S), o = .returned (ho_rv ad ρ r) ∧ Q r σ ∧ (ρ = 0 ∨ ho_typ (ρ - 1) r) ∧ ho_at dC dI cA ad A σ t.heap ∧ va_F A st t
def ho_XC (dC : Nat → ClassId) (dI : Nat → Nat → Nat) (cA : Nat → ClassId) (ad : Nat → Nat) (A : Nat → Prop) (X : ho_X) : String → State → State → Prop := fun E st t =>
  ∃ (ec : Nat) (σ : ho_S), E = ho_ex ec ∧ X ec σ ∧ ho_at dC dI cA ad A σ t.heap ∧ va_F A st t
def ho_vals (ad : Nat → Nat) (Ta : List Nat) (a : List Int) : List Value := (Ta.zip a).map (fun q => ho_val ad q.1 q.2)
def ho_Pc (dC : Nat → ClassId) (dI : Nat → Nat → Nat) (cA : Nat → ClassId) (ad : Nat → Nat) (A : Nat → Prop) (Ta : List Nat) (a : List Int) (σ : ho_S) : Array Value → State → Prop := fun v U =>
  v = (ho_vals ad Ta a).toArray ∧ (∀ q, U.heap.size ≤ q → A q) ∧ va_P (dC, dI) vwCl (ho_W cA ad σ) U.heap ∧ va_K (dC, dI) vwCl (ho_tys cA) U ∧ va_D A (ho_W cA ad σ) ∧ ho_st A U U.heap
def ho_Met (y : MethodName) (bytes : ByteArray) (maxL : Nat) (ret : Option FieldType) (fr lo : Nat) (Ta : List Nat) (ρ : Nat) (M : ho_M) : Prop :=
  ∀ (l : Launch) (dC : Nat → ClassId) (dI : Nat → Nat → Nat) (cA : Nat → ClassId) (ad : Nat → Nat) (A : Nat → Prop) (a : List Int) (σ : ho_S) (Q : ho_K) (X : ho_X), l.stackTraces = false → ho_ty Ta a → ho_rng σ → M a σ Q X →
    MetFree l y (headSpec (Cond.code y bytes maxL ret :: ho_TB) { frames := fr, cells := 1, slots := 6, locals := lo }) (ho_Pc dC dI cA ad A Ta a σ) (fun _ _ _ _ _ => True) (hq_Q (ho_Qc dC dI cA ad A ρ Q) (ho_XC dC dI cA ad A X) A)
theorem ho_blind {dC : Nat → ClassId} {dI : Nat → Nat → Nat} {cA : Nat → ClassId} {ad : Nat → Nat} {A : Nat → Prop} {Ta : List Nat} {a : List Int} {σ : ho_S} : FrameBlind (ho_Pc dC dI cA ad A Ta a σ) := fun v U g mk h => by
  obtain ⟨h1, h2, h3, h4, h5, h6⟩ := h
  exact ⟨h1, h2, h3, va_K.moved (u := U) (U := U.calling g mk v) (Vm.Alike.refl U.vm) h4, h5, ho_st_same (s := U) rfl h6⟩
section
variable {l : Launch} {R : Room} {p : Program} {e : Env} {below : List Frame} {s : State} {sargs : Array Value} {y : MethodName} {len W9 : Nat}
/-- follows vx_back of the exceptions' block, with two counts -/
theorem hq_back {ws : List Cond} {rm : Room} {Pc : Array Value → State → Prop} {Qc : Array Value → State → Outcome → State → Prop} {XC : String → State → State → Prop} {free : Addr → Prop} {bytes : ByteArray} {maxL : Nat} {ret : Option FieldType}
    (hM : MetFree l y (headSpec ws rm) Pc (fun _ _ _ _ _ => True) (hq_Q Qc XC free)) (hblind : FrameBlind Pc) (hrc : rm.cells = 1) (hrs : rm.slots = 6)
    (hframes : rm.frames + 1 ≤ R.frames) (hlocals : W9 + (maxL + 11) + rm.locals ≤ R.locals)
    (hws : ∀ w ∈ ws, ∀ a' U, s.WarmedH U.vm → w.before a' U = true) (hcode : Cond.code y bytes maxL ret ∈ ws) (hinit : ∀ a' U, s.WarmedH U.vm → (Cond.initialized y.cls).before a' U = true) :
    vx_Back l R p e below s sargs y len W9 (PreOf R 1 6 Pc) (PostOf Qc 0 0 free) (vx_Post XC 1 6 free) := by
  intro m meth c A g ig mk a X hg hsize hdg hW hn hp
  have h1 : (headSpec ws rm).pre.before a A.U = true := atoms_intro fun w hw => hws w hw _ _ X.warmed
  have h2 : (Cond.code y bytes maxL ret).before a A.U = true := hws _ hcode _ _ X.warmed
  have h3 : (Cond.initialized y.cls).before a A.U = true := hinit _ _ X.warmed
  have h4 : A.cells + (headSpec ws rm).room.cells ≤ R.cells := by rw [show (headSpec ws rm).room.cells = 1 from hrc]; exact hp.1
  have h5 : A.slots + (headSpec ws rm).room.slots ≤ R.slots := by rw [show (headSpec ws rm).room.slots = 6 from hrs]; exact hp.2.1
  have hPc : Pc a (A.U.calling g mk a) := hblind _ _ _ _ hp.2.2
  obtain ⟨U, Ls, c0, s0⟩ := A
  dsimp only [Pt.U, Pt.locs, Pt.cells, Pt.slots] at h1 h2 h3 h4 h5 X hn hPc ⊢
  obtain ⟨methY, cY, hmY, hcY, -, hlY, -, -, -, -⟩ := Cond.code_spec hn h2
  obtain ⟨kY, hkY, -⟩ := className_of_methodNamed hn
  have hinitY : kY.init = .initialized := Cond.initialized_spec (findClass_of_methodNamed hn) hkY h3
  have h : At U g.method c below := by rw [hg]; exact X.here
  have hlocals9 : W9 + (maxL + 11) + (headSpec ws rm).room.locals ≤ R.locals := hlocals
  have happ : (headSpec ws rm).appliesLoose y e.platform (U.calling g mk a) = true :=
    Spec.appliesLoose_calling (g := g) h hdg hn hkY hinitY
      (X.room_calling (g := g) (R' := (headSpec ws rm).room) hsize hmY hcY hframes (by rw [hlY]; omega) h4 h5) h1
  obtain ⟨mid, hmid⟩ := h.above
  have hfr : (U.setTop g).frames = (.java g :: mid) ++ below := by rw [State.frames_setTop' g h.top, hmid]; rfl
  obtain ⟨o, s₂, hsteps, -, hend, hq⟩ := Steps.callFree hM p X.admits X.cas X.clock (acts := []) hfr happ hPc trivial
  have hq' : hq_Q Qc XC free a (U.calling g mk a) o s₂ := hq
  rw [State.frames_setTop' g h.top] at hend
  obtain ⟨g₀, hg0⟩ := Option.isSome_iff_exists.mp h.top
  obtain ⟨r, hr⟩ := State.topJava?_eq_some.mp hg0
  have hr' : (({ U with heap := s₂.heap, slotsUsed := s₂.slotsUsed } : State).setVm s₂.vm).frames = .java g₀ :: r := hr
  rcases hq' with ⟨hqc, L, hfe, hL⟩ | ⟨q, rfl, E, ce, L, hx, hce, hcv, hcl, hW₂, hsm, hL⟩
  · obtain ⟨⟨v, rfl⟩, hW₂, e2, q2, q3, q4, q5, q6⟩ := id hfe
    have e3 : s₂ = ({ (U.calling g mk a).setFrames s₂.frames with heap := s₂.heap, slotsUsed := s₂.slotsUsed } : State).setVm s₂.vm := by
      have : s₂ = ({ s₂ with vm := (U.calling g mk a).vm } : State).setVm s₂.vm := rfl
      rw [e2] at this
      exact this
    obtain ⟨c₂, i₂, len₂, hc₂, hd₂, hf₂⟩ := hend
    have hW' : U.WarmedH s₂.vm := hW₂
    have hcc : c₂ = c := by
      have h1 : s₂.code? g.method = U.code? g.method := by
        rw [State.code?_eq, State.code?_eq, hW'.alike.method?]
      exact Option.some.inj (hc₂.symm.trans (h1.trans h.code))
    subst hcc
    have hlen : len₂ = len := by rw [hdg] at hd₂; cases hd₂; rfl
    subst hlen
    have hs₂ : s₂ = (({ U with heap := s₂.heap, slotsUsed := s₂.slotsUsed } : State).setVm s₂.vm).setTop { g with pc := g.pc + len₂, stack := v.toList ++ g.stack } := by
      refine e3.trans ?_
      rw [hf₂, State.calling_eq h.top, State.setFrames_setFrames, State.setTop_of_frames _ hr', hr]
      rfl
    have hsame : U.sameButNew ({ U with heap := s₂.heap, slotsUsed := s₂.slotsUsed } : State) L 0 0 := by
      refine ⟨?_, q2, q3, q4, q5, q6⟩
      obtain ⟨t, ht, -⟩ := State.frames_cons hr
      show ({ U with heap := s₂.heap, slotsUsed := s₂.slotsUsed } : State) = { U.setFrames U.frames with heap := s₂.heap, slotsUsed := s₂.slotsUsed }
      rw [State.setFrames_self ht]
    subst hg
    refine Or.inl ⟨v, ⟨(({ U with heap := s₂.heap, slotsUsed := s₂.slotsUsed } : State).setVm s₂.vm), Ls ++ L, c0 + 0, s0 + 0⟩,
      ⟨X.admits, X.cas, X.clock, X.frames, X.room, X.hears, X.method, X.code, (X.here.setHeapUsed s₂.heap s₂.slotsUsed).setVm hW'.alike, X.tail, State.WarmedH.trans X.warmed hW', X.limits, X.bytes, X.same.trans (hsame.setVm s.vm)⟩,
      ⟨g, mk, s₂, L, rfl, rfl, hqc, rfl, hL, rfl, rfl⟩, ?_⟩
    show Steps p.tables e below _ ((({ U with heap := s₂.heap, slotsUsed := s₂.slotsUsed } : State).setVm s₂.vm).setTop { g with pc := g.pc + len₂, stack := v.toList ++ g.stack })
    rw [← hs₂]
    exact hsteps
  · obtain ⟨e2, q2, q3, q4, q5, q6⟩ := id hsm
    have e3 : s₂ = ({ (U.calling g mk a).setFrames s₂.frames with heap := s₂.heap, slotsUsed := s₂.slotsUsed } : State).setVm s₂.vm := by
      have : s₂ = ({ s₂ with vm := (U.calling g mk a).vm } : State).setVm s₂.vm := rfl
      rw [e2] at this
      exact this
    have hf₂ : s₂.frames = .throwing q :: .java g :: U.frames.tail := hend
    have hW' : U.WarmedH s₂.vm := hW₂
    have hs₂ : s₂ = ((({ U with heap := s₂.heap, slotsUsed := s₂.slotsUsed } : State).setVm s₂.vm).setTop g).pushFrame (.throwing q) := by
      refine e3.trans ?_
      rw [hf₂, State.calling_eq h.top, State.setFrames_setFrames, State.pushFrame, State.frames_setTop _ hr', State.setTop_of_frames _ hr', State.setFrames_setFrames, hr]
      rfl
    have hsame : U.sameButNew ({ U with heap := s₂.heap, slotsUsed := s₂.slotsUsed } : State) L 1 6 := by
      refine ⟨?_, q2, q3, q4, q5, q6⟩
      obtain ⟨t, ht, -⟩ := State.frames_cons hr
      show ({ U with heap := s₂.heap, slotsUsed := s₂.slotsUsed } : State) = { U.setFrames U.frames with heap := s₂.heap, slotsUsed := s₂.slotsUsed }
      rw [State.setFrames_self ht]
    subst hg
    refine Or.inr ⟨q, ⟨(({ U with heap := s₂.heap, slotsUsed := s₂.slotsUsed } : State).setVm s₂.vm), Ls ++ L, c0 + 1, s0 + 6⟩,
      ⟨X.admits, X.cas, X.clock, X.frames, X.room, X.hears, X.method, X.code, (X.here.setHeapUsed s₂.heap s₂.slotsUsed).setVm hW'.alike, X.tail, State.WarmedH.trans X.warmed hW', X.limits, X.bytes, X.same.trans (hsame.setVm s.vm)⟩,
      ⟨g, mk, s₂, L, E, ce, rfl, rfl, hx, hce, hcv, hcl, rfl, hL, rfl, rfl⟩, ?_⟩
    show Steps p.tables e below _ (((({ U with heap := s₂.heap, slotsUsed := s₂.slotsUsed } : State).setVm s₂.vm).setTop g).pushFrame (.throwing q))
    rw [← hs₂]
    exact hsteps
end
