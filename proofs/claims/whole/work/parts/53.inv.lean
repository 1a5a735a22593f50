-- what holds between two calls
def PLC (F : Nat → Int) (N : Nat) (m p : Int) : Prop := (∃ i : Nat, i < N ∧ F i = m ∧ p = (i : Int)) ∨ ((∀ i : Nat, i < N → F i ≠ m) ∧ p = -1)
def GS (S N M : Nat) (σ : ho_S) : Prop := σ 1 5 = (S : Int) ∧ σ 30 1 = (S : Int) ∧ σ 1 6 = (N : Int) ∧ σ 30 5 = (N : Int) ∧ σ 0 11 = (M : Int) ∧ σ 30 8 = (M : Int) ∧ M ≤ 16
def GF (S N : Nat) (σ : ho_S) : Prop := S ≤ 12 ∧ N ≤ 400 * S ∧ (∀ s, s < S → σ 12 s = σ 31 s ∧ 1 ≤ σ 31 s ∧ σ 31 s ≤ 400) ∧ FR (σ 8) (σ 34) N ∧ (∀ i, i < N → σ 34 i < 400 * (S : Int) ∧ σ 34 i % 400 < σ 31 (σ 34 i / 400).toNat) ∧ ∀ i j, i < N → j < N → σ 34 i = σ 34 j → i = j
def GPc (S N : Nat) (σ : ho_S) : Prop := ∀ s f : Nat, s < S → (f : Int) < σ 31 s → PLC (σ 8) N ((401 * s + f : Nat) : Int) (σ 10 (401 * s + f))
def GPm (S N : Nat) (σ : ho_S) : Prop := ∀ s f : Nat, s < S → (f : Int) < σ 31 s → PLC (σ 34) N ((400 * s + f : Nat) : Int) (σ 32 (400 * s + f))
def GL (S M : Nat) (σ : ho_S) : Prop := bitsOK (σ 33) ∧ (∀ m, m < 4800 → σ 11 (m + m / 400) = σ 33 m) ∧ (∀ m, 400 * S ≤ m → m < 4800 → σ 33 m = 0) ∧ ∀ m, m < 4800 → ∀ c, M ≤ c → c < 16 → bit (σ 33 m) c = false
def GT (N M : Nat) (σ : ho_S) : Prop := (∀ c, c < M → σ 13 c = σ 37 c ∧ σ 14 c = σ 38 c ∧ LR (fun i => bit (σ 33 (σ 34 i).toNat) c = true) N (σ 37 c) (σ 38 c)) ∧ (∀ c, M ≤ c → c < 16 → σ 13 c = -1 ∧ σ 14 c = 0) ∧ ∀ c, c < 16 → 0 ≤ σ 15 c ∧ σ 15 c ≤ 4800
def GK (σ : ho_S) : Prop := ∀ c, c < 16 → σ 26 c = σ 36 c ∧ 0 ≤ σ 36 c ∧ σ 36 c ≤ 3
def GX (σ : ho_S) : Prop := SZ σ ∧ SZM σ ∧ (∀ x, x < 48 → tv (σ 18) (σ 19) x = tv (σ 42) (σ 41) x) ∧ ∀ x, x < 80 → ∀ i, 0 ≤ tx (σ 18) (σ 19) x i ∧ tx (σ 18) (σ 19) x i ≤ 131071
def GB (j : Nat) (σ : ho_S) : Prop := (∀ c, c < 16 → σ 28 (3 * c) = 0 ∧ ∀ t, 1 ≤ t → t < 3 → (σ 28 (3 * c + t) ≠ 0 ↔ σ 43 (3 * c + t) < σ 43 (3 * c))) ∧ (∀ x, x < 48 → σ 43 x ≤ σ 30 17) ∧ 0 ≤ σ 30 17 ∧ σ 30 17 ≤ 20 * (j : Int)
def GN (σ : ho_S) : Prop := ∀ i, i < 384 → σ 27 i = σ 44 i
/-- no memory keeps an empty text of the first tongue -/
def NE (E : Nat → TV × TV) (K : Nat) : Prop := ∀ i, i < K → (E i).1.1 ≠ 0
def GM (j m mo u O : Nat) (σ : ho_S) : Prop := ∃ (K : Nat) (E : Nat → TV × TV), K ≤ 8 ∧ DIST E K ∧ CM σ mo u O K E ∧ MM σ m K E ∧ 0 ≤ σ mo 4 ∧ σ mo 4 ≤ 20 * (j : Int) ∧ NE E K
def GW (σ : ho_S) : Prop := σ 0 12 = σ 30 25 ∧ 5 ≤ σ 30 25 ∧ σ 30 25 ≤ 60 ∧ σ 0 13 = σ 30 26 ∧ 5 ≤ σ 30 26 ∧ σ 30 26 ≤ 50
def hi_Inv (j : Nat) (σ : ho_S) : Prop := j ≤ 512 ∧ ∃ S N M : Nat, GS S N M σ ∧ GF S N σ ∧ GPc S N σ ∧ GPm S N σ ∧ GL S M σ ∧ GT N M σ ∧ GK σ ∧ GX σ ∧ GB j σ ∧ GN σ ∧ GM j 0 4 20 48 σ ∧ GM j 1 5 21 64 σ ∧ GW σ
theorem GS_sm {p : Nat → Nat → Bool} {σ τ : ho_S} {S N M : Nat} (h : GS S N M σ) (s : sm p σ τ) (e : p 1 5 = false ∧ p 30 1 = false ∧ p 1 6 = false ∧ p 30 5 = false ∧ p 0 11 = false ∧ p 30 8 = false) : GS S N M τ := by
  unfold GS at h ⊢
  rw [s 1 5 e.1, s 30 1 e.2.1, s 1 6 e.2.2.1, s 30 5 e.2.2.2.1, s 0 11 e.2.2.2.2.1, s 30 8 e.2.2.2.2.2]
  exact h
theorem GF_sm {p : Nat → Nat → Bool} {σ τ : ho_S} {S N : Nat} (h : GF S N σ) (s : sm p σ τ) (e : ∀ j, p 12 j = false ∧ p 31 j = false ∧ p 8 j = false ∧ p 34 j = false) : GF S N τ := by
  unfold GF at h ⊢
  rw [sm_fn s 12 (fun j => (e j).1), sm_fn s 31 (fun j => (e j).2.1), sm_fn s 8 (fun j => (e j).2.2.1), sm_fn s 34 (fun j => (e j).2.2.2)]
  exact h
theorem GPc_sm {p : Nat → Nat → Bool} {σ τ : ho_S} {S N : Nat} (h : GPc S N σ) (s : sm p σ τ) (e : ∀ j, p 31 j = false ∧ p 8 j = false ∧ p 10 j = false) : GPc S N τ := by
  unfold GPc at h ⊢
  rw [sm_fn s 31 (fun j => (e j).1), sm_fn s 8 (fun j => (e j).2.1), sm_fn s 10 (fun j => (e j).2.2)]
  exact h
theorem GPm_sm {p : Nat → Nat → Bool} {σ τ : ho_S} {S N : Nat} (h : GPm S N σ) (s : sm p σ τ) (e : ∀ j, p 31 j = false ∧ p 34 j = false ∧ p 32 j = false) : GPm S N τ := by
  unfold GPm at h ⊢
  rw [sm_fn s 31 (fun j => (e j).1), sm_fn s 34 (fun j => (e j).2.1), sm_fn s 32 (fun j => (e j).2.2)]
  exact h
theorem GL_sm {p : Nat → Nat → Bool} {σ τ : ho_S} {S M : Nat} (h : GL S M σ) (s : sm p σ τ) (e : ∀ j, p 33 j = false ∧ p 11 j = false) : GL S M τ := by
  unfold GL at h ⊢
  rw [sm_fn s 33 (fun j => (e j).1), sm_fn s 11 (fun j => (e j).2)]
  exact h
theorem GT_sm {p : Nat → Nat → Bool} {σ τ : ho_S} {N M : Nat} (h : GT N M σ) (s : sm p σ τ) (e : ∀ j, p 13 j = false ∧ p 14 j = false ∧ p 15 j = false ∧ p 37 j = false ∧ p 38 j = false ∧ p 33 j = false ∧ p 34 j = false) : GT N M τ := by
  unfold GT at h ⊢
  rw [sm_fn s 13 (fun j => (e j).1), sm_fn s 14 (fun j => (e j).2.1), sm_fn s 15 (fun j => (e j).2.2.1), sm_fn s 37 (fun j => (e j).2.2.2.1), sm_fn s 38 (fun j => (e j).2.2.2.2.1), sm_fn s 33 (fun j => (e j).2.2.2.2.2.1), sm_fn s 34 (fun j => (e j).2.2.2.2.2.2)]
  exact h
theorem GK_sm {p : Nat → Nat → Bool} {σ τ : ho_S} (h : GK σ) (s : sm p σ τ) (e : ∀ j, p 26 j = false ∧ p 36 j = false) : GK τ := by
  unfold GK at h ⊢
  rw [sm_fn s 26 (fun j => (e j).1), sm_fn s 36 (fun j => (e j).2)]
  exact h
theorem GX_sm {p : Nat → Nat → Bool} {σ τ : ho_S} (h : GX σ) (s : sm p σ τ) (e : ∀ j, p 18 j = false ∧ p 19 j = false ∧ p 41 j = false ∧ p 42 j = false ∧ p 46 j = false ∧ p 48 j = false) : GX τ := by
  unfold GX SZ SZM at h ⊢
  rw [sm_fn s 18 (fun j => (e j).1), sm_fn s 19 (fun j => (e j).2.1), sm_fn s 41 (fun j => (e j).2.2.1), sm_fn s 42 (fun j => (e j).2.2.2.1), sm_fn s 46 (fun j => (e j).2.2.2.2.1), sm_fn s 48 (fun j => (e j).2.2.2.2.2)]
  exact h
theorem GB_sm {p : Nat → Nat → Bool} {σ τ : ho_S} {j : Nat} (h : GB j σ) (s : sm p σ τ) (e : ∀ j, p 28 j = false ∧ p 43 j = false) (e' : p 30 17 = false) : GB (j + 1) τ := by
  unfold GB at h ⊢
  rw [sm_fn s 28 (fun j => (e j).1), sm_fn s 43 (fun j => (e j).2), s 30 17 e']
  exact ⟨h.1, h.2.1, h.2.2.1, by have := h.2.2.2; omega⟩
theorem GN_sm {p : Nat → Nat → Bool} {σ τ : ho_S} (h : GN σ) (s : sm p σ τ) (e : ∀ j, p 27 j = false ∧ p 44 j = false) : GN τ := by
  unfold GN at h ⊢
  rw [sm_fn s 27 (fun j => (e j).1), sm_fn s 44 (fun j => (e j).2)]
  exact h
theorem GW_sm {p : Nat → Nat → Bool} {σ τ : ho_S} (h : GW σ) (s : sm p σ τ) (e : p 0 12 = false ∧ p 30 25 = false ∧ p 0 13 = false ∧ p 30 26 = false) : GW τ := by
  unfold GW at h ⊢
  rw [s 0 12 e.1, s 30 25 e.2.1, s 0 13 e.2.2.1, s 30 26 e.2.2.2]
  exact h
/-- a memory holds on, where its cells and its texts are as they were -/
theorem GM_of {σ τ : ho_S} {j m mo u O : Nat} (h : GM j m mo u O σ) (hO : O ≤ 64) (hm : m < 2) (h1 : ∀ x, τ mo x = σ mo x) (h2 : ∀ x, τ u x = σ u x) (h3 : ∀ x, O ≤ x → x < O + 16 → tv (τ 18) (τ 19) x = tv (σ 18) (σ 19) x) (h4 : τ 45 m = σ 45 m) (h5 : ∀ r, r < 9 → tv (τ 47) (τ 46) (9 * m + r) = tv (σ 47) (σ 46) (9 * m + r) ∧ tv (τ 49) (τ 48) (9 * m + r) = tv (σ 49) (σ 48) (9 * m + r) ∧ τ 50 (9 * m + r) = σ 50 (9 * m + r)) (h6 : σ 30 17 ≤ τ 30 17) : GM (j + 1) m mo u O τ := by
  obtain ⟨K, E, a1, a2, ⟨b1, b2, b3, b4⟩, ⟨c1, c2⟩, d1, d2, d3⟩ := h
  refine ⟨K, E, a1, a2, ⟨(h1 0).trans b1, (h1 1).trans b2, (h1 3).trans b3, ?_⟩, ⟨h4.trans c1, ?_⟩, by rw [h1 4]; exact d1, by rw [h1 4]; omega, d3⟩
  · exact RF_congr b4 (fun s hs => ⟨h3 _ (by omega) (by omega), h3 _ (by omega) (by omega), h2 s⟩) (by rw [h1 4]; exact Int.le_refl _)
  · exact RF_congr c2 (fun s hs => ⟨(h5 s (by omega)).1, (h5 s (by omega)).2.1, (h5 s (by omega)).2.2⟩) h6
theorem GM_sm {p : Nat → Nat → Bool} {σ τ : ho_S} {j m mo u O : Nat} (h : GM j m mo u O σ) (s : sm p σ τ) (hO : O ≤ 64) (hm : m < 2) (e : ∀ j, p mo j = false ∧ p u j = false ∧ p 18 j = false ∧ p 19 j = false ∧ p 45 j = false ∧ p 46 j = false ∧ p 47 j = false ∧ p 48 j = false ∧ p 49 j = false ∧ p 50 j = false) (e' : p 30 17 = false) : GM (j + 1) m mo u O τ := by
  refine GM_of h hO hm (fun x => s mo x (e x).1) (fun x => s u x (e x).2.1) (fun x _ _ => ?_) (s 45 m (e m).2.2.2.2.1) (fun r _ => ⟨?_, ?_, s 50 _ (e _).2.2.2.2.2.2.2.2.2⟩) (by rw [s 30 17 e']; exact Int.le_refl _)
  · rw [sm_fn s 18 (fun j => (e j).2.2.1), sm_fn s 19 (fun j => (e j).2.2.2.1)]
  · rw [sm_fn s 46 (fun j => (e j).2.2.2.2.2.1), sm_fn s 47 (fun j => (e j).2.2.2.2.2.2.1)]
  · rw [sm_fn s 48 (fun j => (e j).2.2.2.2.2.2.2.1), sm_fn s 49 (fun j => (e j).2.2.2.2.2.2.2.2.1)]
/-- what any call may scribble on -/
def pSc (k j : Nat) : Bool := pWA k j || (pMA k j || (Nat.beq k 54 || (Nat.beq k 9 || (Nat.beq k 16 || (Nat.beq k 17 || (Nat.beq k 35 || (Nat.beq k 39 || (Nat.beq k 40 || (Nat.beq k 30 && Nat.beq j 0)))))))))
theorem pSc_wa : ∀ k j, pWA k j = true → pSc k j = true := fun k j z => by unfold pSc; rw [z]; rfl
theorem pSc_ma : ∀ k j, pMA k j = true → pSc k j = true := fun k j z => by unfold pSc; rw [z]; simp
theorem pSc_ly : ∀ k j, pLy k j = true → pSc k j = true := fun k j z => pSc_wa k j (pWA_ly k j z)
theorem pSc_or : ∀ k j, pOr k j = true → pSc k j = true := fun k j z => pSc_wa k j (pWA_or k j z)
theorem pSc_ro : ∀ k j, pRo k j = true → pSc k j = true := fun k j z => pSc_ma k j (pMA_ro k j z)
theorem Inv_sc {σ τ : ho_S} {j : Nat} (hj : j < 512) (h : hi_Inv j σ) (s : sm pSc σ τ) : hi_Inv (j + 1) τ := by
  obtain ⟨_, S, N, M, h1, h2, h3, h4, h5, h6, h7, h8, h9, h10, h11, h12, h13⟩ := h
  exact ⟨by omega, S, N, M, GS_sm h1 s ⟨rfl, rfl, rfl, rfl, rfl, rfl⟩, GF_sm h2 s (fun _ => ⟨rfl, rfl, rfl, rfl⟩), GPc_sm h3 s (fun _ => ⟨rfl, rfl, rfl⟩), GPm_sm h4 s (fun _ => ⟨rfl, rfl, rfl⟩), GL_sm h5 s (fun _ => ⟨rfl, rfl⟩), GT_sm h6 s (fun _ => ⟨rfl, rfl, rfl, rfl, rfl, rfl, rfl⟩), GK_sm h7 s (fun _ => ⟨rfl, rfl⟩), GX_sm h8 s (fun _ => ⟨rfl, rfl, rfl, rfl, rfl, rfl⟩), GB_sm h9 s (fun _ => ⟨rfl, rfl⟩) rfl, GN_sm h10 s (fun _ => ⟨rfl, rfl⟩), GM_sm h11 s (by omega) (by omega) (fun _ => ⟨rfl, rfl, rfl, rfl, rfl, rfl, rfl, rfl, rfl, rfl⟩) rfl, GM_sm h12 s (by omega) (by omega) (fun _ => ⟨rfl, rfl, rfl, rfl, rfl, rfl, rfl, rfl, rfl, rfl⟩) rfl, GW_sm h13 s ⟨rfl, rfl, rfl, rfl⟩⟩
theorem RF_nil {a b : Nat → TV} {us : Nat → Int} {ck : Int} {E : Nat → TV × TV} : RF a b us 0 ck E := ⟨fun i => i, fun j hj => by omega, fun i j hi => by omega, fun s hs => by omega, fun j hj => by omega, fun i j hij hj => by omega, fun j hj => by omega⟩
theorem Inv_0 : hi_Inv 0 ho_s0 := by
  refine ⟨by omega, 0, 0, 0, ⟨rfl, rfl, rfl, rfl, rfl, rfl, by omega⟩, ⟨by omega, by omega, fun s hs => by omega, fun i hi => by omega, fun i hi => by omega, fun i j hi => by omega⟩, fun s f hs => by omega, fun s f hs => by omega, ⟨fun k _ => ⟨0, rfl, by omega⟩, fun m _ => rfl, fun m _ _ => rfl, fun m _ c _ _ => bit_zero c⟩, ⟨fun c hc => by omega, fun c _ hc => ⟨?_, rfl⟩, fun c _ => ⟨Int.le_refl _, by show (0 : Int) ≤ 4800; omega⟩⟩, fun c _ => ⟨rfl, Int.le_refl _, by show (0 : Int) ≤ 3; omega⟩, ⟨fun x _ => ⟨Int.le_refl _, by show (0 : Int) ≤ 60; omega⟩, ⟨fun x _ => ⟨Int.le_refl _, by show (0 : Int) ≤ 60; omega⟩, fun x _ => ⟨⟨Int.le_refl _, by show (0 : Int) ≤ 60; omega⟩, Int.le_refl _, by show (0 : Int) ≤ 60; omega⟩⟩, fun x _ => ?_, fun x _ i => ?_⟩, ⟨fun c _ => ⟨rfl, fun t _ _ => ⟨fun z => absurd rfl z, fun z => absurd z (by show ¬ (0 : Int) < 0; omega)⟩⟩, fun x _ => Int.le_refl _, Int.le_refl _, Int.le_refl _⟩, fun i _ => rfl, ⟨0, fun _ => ((0, fun _ => 0), (0, fun _ => 0)), by omega, fun i j hi => by omega, ⟨rfl, rfl, rfl, RF_nil⟩, ⟨rfl, RF_nil⟩, Int.le_refl _, Int.le_refl _, fun i hi => by omega⟩, ⟨0, fun _ => ((0, fun _ => 0), (0, fun _ => 0)), by omega, fun i j hi => by omega, ⟨rfl, rfl, rfl, RF_nil⟩, ⟨rfl, RF_nil⟩, Int.le_refl _, Int.le_refl _, fun i hi => by omega⟩, ⟨rfl, by show (5 : Int) ≤ 32; omega, by show (32 : Int) ≤ 60; omega, rfl, by show (5 : Int) ≤ 15; omega, by show (15 : Int) ≤ 50; omega⟩⟩
  · show (if c < 16 then (-1 : Int) else 0) = -1
    rw [if_pos hc]
  · refine tv_eq rfl (fun i hi => ?_)
    exact absurd hi (by show ¬ (i : Int) < 0; omega)
  · have e : tx (ho_s0 18) (ho_s0 19) x i = 0 := tx_out (by show ¬ (i : Int) < 0; omega)
    rw [e]; omega
/-- what the groups say of the times and the texts -/
theorem GT_TM {N M : Nat} {σ : ho_S} (h : GT N M σ) : TM (σ 37) (σ 38) M N ∧ TM (σ 13) (σ 14) M N := by
  have a : TM (σ 37) (σ 38) M N := fun k hk => by
    have := LR_pos (h.1 k hk).2.2
    omega
  exact ⟨a, fun k hk => by rw [(h.1 k hk).1, (h.1 k hk).2.1]; exact a k hk⟩
theorem GX_TXT {σ : ho_S} (h : GX σ) {x : Nat} (hx : x < 48) : ∃ n T, TXT σ x n T ∧ MTX σ x n T ∧ SG T n := by
  have z := h.1 x (by omega)
  have e := h.2.2.1 x hx
  refine ⟨(σ 19 x).toNat, tx (σ 18) (σ 19) x, ⟨by omega, by omega, rfl⟩, ⟨?_, by omega, ?_⟩, fun i _ => h.2.2.2 x (by omega) i⟩
  · have : σ 19 x = σ 41 x := congrArg Prod.fst e
    omega
  · exact (congrArg Prod.snd e).symm
theorem mkA_in {S N M : Nat} {σ : ho_S} (hS : GS S N M σ) (hF : GF S N σ) (hL : GL S M σ) {p : Nat} (hp : p < N) : mkA σ (p : Int) = σ 33 (σ 34 p).toNat := by
  have k := hF.2.2.2.1 p hp
  have n9 := hF.2.1
  have s9 := hF.1
  have e6 := hS.2.2.1
  unfold mkA
  rw [if_pos (by omega), Int.toNat_natCast, if_pos (by omega), ← hL.2.1 (σ 34 p).toNat (by omega)]
  congr 1
  omega
