-- words and cells, for loops told by relations
theorem wad {a b : Int} (h1 : -2147483648 ≤ a + b) (h2 : a + b < 2147483648) : ho_oadd a b = a + b := wE h1 h2
theorem wsu {a b : Int} (h1 : -2147483648 ≤ a - b) (h2 : a - b < 2147483648) : ho_osub a b = a - b := wE h1 h2
theorem wmu {a b : Int} (h1 : -2147483648 ≤ a * b) (h2 : a * b < 2147483648) : ho_omul a b = a * b := wE h1 h2
theorem inc {k : Nat} (h : k < 100000) : ho_w ((k : Int) + 1) = ((k + 1 : Nat) : Int) := by rw [wE (by omega) (by omega)]; simp
theorem oinc {k : Nat} (h : k < 100000) : ho_oadd (k : Int) 1 = ((k + 1 : Nat) : Int) := inc h
theorem odec {k : Nat} (h : k < 100000) : ho_osub ((k + 1 : Nat) : Int) 1 = (k : Int) := by rw [wsu (by omega) (by omega)]; omega
theorem oad {a b : Nat} (ha : a < 100000) (hb : b < 100000) : ho_oadd (a : Int) (b : Int) = ((a + b : Nat) : Int) := by rw [wad (by omega) (by omega)]; simp
theorem o60 {t i : Nat} (ht : t < 1000) (hi : i < 1000) : ho_oadd (ho_omul 60 (t : Int)) (i : Int) = ((60 * t + i : Nat) : Int) := by
  rw [wmu (by omega) (by omega), wad (by omega) (by omega)]; simp
theorem o60c {t i : Nat} (ht : t < 1000) (hi : i < 1000) : ho_oadd (ho_omul (t : Int) 60) (i : Int) = ((60 * t + i : Nat) : Int) := by
  rw [wmu (by omega) (by omega), wad (by omega) (by omega)]; simp; omega
theorem o8c {t i : Nat} (ht : t < 1000) (hi : i < 1000) : ho_oadd (ho_omul (t : Int) 8) (i : Int) = ((8 * t + i : Nat) : Int) := by
  rw [wmu (by omega) (by omega), wad (by omega) (by omega)]; simp; omega
theorem o3c {c t : Nat} (hc : c < 1000) (ht : t < 1000) : ho_w (ho_w ((c : Int) * 3) + (t : Int)) = ((3 * c + t : Nat) : Int) := by
  rw [wE (x := (c : Int) * 3) (by omega) (by omega), wE (by omega) (by omega)]; simp; omega
theorem gi_n {σ : ho_S} {r : Int} {i : Nat} (h : i < ho_N r.toNat) : gi σ r (i : Int) = σ r.toNat i := by
  rw [gi_in (by omega) (by omega)]; rfl
theorem si_n {σ : ho_S} {r v : Int} {i : Nat} (h : i < ho_N r.toNat) : si σ r (i : Int) v = ho_up σ r.toNat i v := by
  rw [si_in (by omega) (by omega)]; rfl
theorem gi8 {σ : ho_S} {i : Nat} (h : i < 4800) : gi σ 8 (i : Int) = σ 8 i := gi_n (r := 8) h
theorem si8 {σ : ho_S} {i : Nat} {v : Int} (h : i < 4800) : si σ 8 (i : Int) v = ho_up σ 8 i v := si_n (r := 8) h
theorem gi10 {σ : ho_S} {i : Nat} (h : i < 4812) : gi σ 10 (i : Int) = σ 10 i := gi_n (r := 10) h
theorem si10 {σ : ho_S} {i : Nat} {v : Int} (h : i < 4812) : si σ 10 (i : Int) v = ho_up σ 10 i v := si_n (r := 10) h
theorem gi11 {σ : ho_S} {i : Nat} (h : i < 4812) : gi σ 11 (i : Int) = σ 11 i := gi_n (r := 11) h
theorem si11 {σ : ho_S} {i : Nat} {v : Int} (h : i < 4812) : si σ 11 (i : Int) v = ho_up σ 11 i v := si_n (r := 11) h
theorem gi12 {σ : ho_S} {i : Nat} (h : i < 12) : gi σ 12 (i : Int) = σ 12 i := gi_n (r := 12) h
theorem si12 {σ : ho_S} {i : Nat} {v : Int} (h : i < 12) : si σ 12 (i : Int) v = ho_up σ 12 i v := si_n (r := 12) h
theorem gi13 {σ : ho_S} {i : Nat} (h : i < 16) : gi σ 13 (i : Int) = σ 13 i := gi_n (r := 13) h
theorem si13 {σ : ho_S} {i : Nat} {v : Int} (h : i < 16) : si σ 13 (i : Int) v = ho_up σ 13 i v := si_n (r := 13) h
theorem gi14 {σ : ho_S} {i : Nat} (h : i < 16) : gi σ 14 (i : Int) = σ 14 i := gi_n (r := 14) h
theorem si14 {σ : ho_S} {i : Nat} {v : Int} (h : i < 16) : si σ 14 (i : Int) v = ho_up σ 14 i v := si_n (r := 14) h
theorem gi15 {σ : ho_S} {i : Nat} (h : i < 16) : gi σ 15 (i : Int) = σ 15 i := gi_n (r := 15) h
theorem si15 {σ : ho_S} {i : Nat} {v : Int} (h : i < 16) : si σ 15 (i : Int) v = ho_up σ 15 i v := si_n (r := 15) h
theorem gi16 {σ : ho_S} {i : Nat} (h : i < 16) : gi σ 16 (i : Int) = σ 16 i := gi_n (r := 16) h
theorem si16 {σ : ho_S} {i : Nat} {v : Int} (h : i < 16) : si σ 16 (i : Int) v = ho_up σ 16 i v := si_n (r := 16) h
theorem gi17 {σ : ho_S} {i : Nat} (h : i < 16) : gi σ 17 (i : Int) = σ 17 i := gi_n (r := 17) h
theorem si17 {σ : ho_S} {i : Nat} {v : Int} (h : i < 16) : si σ 17 (i : Int) v = ho_up σ 17 i v := si_n (r := 17) h
theorem gi18 {σ : ho_S} {i : Nat} (h : i < 4800) : gi σ 18 (i : Int) = σ 18 i := gi_n (r := 18) h
theorem si18 {σ : ho_S} {i : Nat} {v : Int} (h : i < 4800) : si σ 18 (i : Int) v = ho_up σ 18 i v := si_n (r := 18) h
theorem gi19 {σ : ho_S} {i : Nat} (h : i < 80) : gi σ 19 (i : Int) = σ 19 i := gi_n (r := 19) h
theorem si19 {σ : ho_S} {i : Nat} {v : Int} (h : i < 80) : si σ 19 (i : Int) v = ho_up σ 19 i v := si_n (r := 19) h
theorem gi20 {σ : ho_S} {i : Nat} (h : i < 8) : gi σ 20 (i : Int) = σ 20 i := gi_n (r := 20) h
theorem si20 {σ : ho_S} {i : Nat} {v : Int} (h : i < 8) : si σ 20 (i : Int) v = ho_up σ 20 i v := si_n (r := 20) h
theorem gi21 {σ : ho_S} {i : Nat} (h : i < 8) : gi σ 21 (i : Int) = σ 21 i := gi_n (r := 21) h
theorem si21 {σ : ho_S} {i : Nat} {v : Int} (h : i < 8) : si σ 21 (i : Int) v = ho_up σ 21 i v := si_n (r := 21) h
theorem gi22 {σ : ho_S} {i : Nat} (h : i < 61) : gi σ 22 (i : Int) = σ 22 i := gi_n (r := 22) h
theorem si22 {σ : ho_S} {i : Nat} {v : Int} (h : i < 61) : si σ 22 (i : Int) v = ho_up σ 22 i v := si_n (r := 22) h
theorem gi23 {σ : ho_S} {i : Nat} (h : i < 61) : gi σ 23 (i : Int) = σ 23 i := gi_n (r := 23) h
theorem si23 {σ : ho_S} {i : Nat} {v : Int} (h : i < 61) : si σ 23 (i : Int) v = ho_up σ 23 i v := si_n (r := 23) h
theorem gi24 {σ : ho_S} {i : Nat} (h : i < 61) : gi σ 24 (i : Int) = σ 24 i := gi_n (r := 24) h
theorem si24 {σ : ho_S} {i : Nat} {v : Int} (h : i < 61) : si σ 24 (i : Int) v = ho_up σ 24 i v := si_n (r := 24) h
theorem gi26 {σ : ho_S} {i : Nat} (h : i < 16) : gi σ 26 (i : Int) = σ 26 i := gi_n (r := 26) h
theorem si26 {σ : ho_S} {i : Nat} {v : Int} (h : i < 16) : si σ 26 (i : Int) v = ho_up σ 26 i v := si_n (r := 26) h
theorem gi27 {σ : ho_S} {i : Nat} (h : i < 384) : gi σ 27 (i : Int) = σ 27 i := gi_n (r := 27) h
theorem si27 {σ : ho_S} {i : Nat} {v : Int} (h : i < 384) : si σ 27 (i : Int) v = ho_up σ 27 i v := si_n (r := 27) h
theorem gi29 {σ : ho_S} {i : Nat} (h : i < 16) : gi σ 29 (i : Int) = σ 29 i := gi_n (r := 29) h
theorem si29 {σ : ho_S} {i : Nat} {v : Int} (h : i < 16) : si σ 29 (i : Int) v = ho_up σ 29 i v := si_n (r := 29) h
/-- the same but for what p names -/
def sm (p : Nat → Nat → Bool) (σ τ : ho_S) : Prop := ∀ k j, p k j = false → τ k j = σ k j
theorem sm_rf {p : Nat → Nat → Bool} {σ : ho_S} : sm p σ σ := fun _ _ _ => rfl
theorem sm_tr {p : Nat → Nat → Bool} {σ τ υ : ho_S} (h : sm p σ τ) (g : sm p τ υ) : sm p σ υ := fun k j e => (g k j e).trans (h k j e)
theorem sm_mo {p q : Nat → Nat → Bool} {σ τ : ho_S} (h : sm p σ τ) (e : ∀ k j, q k j = false → p k j = false) : sm q σ τ := fun k j z => h k j (e k j z)
theorem sm_up {p : Nat → Nat → Bool} {σ τ : ho_S} {k j : Nat} {v : Int} (h : sm p σ τ) (e : p k j = true) : sm p σ (ho_up τ k j v) := by
  intro k' j' z
  have n : ¬ (k' = k ∧ j' = j) := by
    rintro ⟨rfl, rfl⟩
    rw [e] at z; cases z
  show (if k' = k ∧ j' = j then v else τ k' j') = _
  rw [if_neg n]
  exact h k' j' z
theorem sm_sa {p : Nat → Nat → Bool} {σ τ : ho_S} {k : Nat} {g : Nat → Int} (h : sm p σ τ) (e : ∀ j, p k j = true) : sm p σ (sa τ k g) := by
  intro k' j' z
  have n : k' ≠ k := by
    rintro rfl
    rw [e] at z; cases z
  show (if k' = k then g j' else τ k' j') = _
  rw [if_neg n]
  exact h k' j' z
theorem sm_fn {p : Nat → Nat → Bool} {σ τ : ho_S} (h : sm p σ τ) (k : Nat) (e : ∀ j, p k j = false) : τ k = σ k := funext fun j => h k j (e j)
def pLy (k _ : Nat) : Bool := Nat.beq k 6 || (Nat.beq k 22 || (Nat.beq k 23 || Nat.beq k 24))
def p24 (k _ : Nat) : Bool := Nat.beq k 24
def pRo (k j : Nat) : Bool := Nat.beq k 51 || (Nat.beq k 52 || (Nat.beq k 30 && Nat.beq j 27))
def pPg (k _ : Nat) : Bool := Nat.beq k 7 || Nat.beq k 25
def pOt (k j : Nat) : Bool := Nat.beq k 53 || (Nat.beq k 30 && Nat.beq j 30)
def pOr (k _ : Nat) : Bool := Nat.beq k 29
/-- a text of the class, a text of the model -/
def TXT (σ : ho_S) (t n : Nat) (T : Nat → Int) : Prop := σ 19 t = (n : Int) ∧ n ≤ 60 ∧ tx (σ 18) (σ 19) t = T
def MTX (σ : ho_S) (t n : Nat) (T : Nat → Int) : Prop := σ 41 t = (n : Int) ∧ n ≤ 60 ∧ tx (σ 42) (σ 41) t = T
theorem TXT_sm {p : Nat → Nat → Bool} {σ τ : ho_S} {t n : Nat} {T : Nat → Int} (h : TXT σ t n T) (g : sm p σ τ) (e : ∀ j, p 18 j = false) (e' : ∀ j, p 19 j = false) : TXT τ t n T := by
  unfold TXT at h ⊢
  rw [sm_fn g 18 e, sm_fn g 19 e']
  exact h
theorem MTX_sm {p : Nat → Nat → Bool} {σ τ : ho_S} {t n : Nat} {T : Nat → Int} (h : MTX σ t n T) (g : sm p σ τ) (e : ∀ j, p 41 j = false) (e' : ∀ j, p 42 j = false) : MTX τ t n T := by
  unfold MTX at h ⊢
  rw [sm_fn g 41 e, sm_fn g 42 e']
  exact h
theorem sp_sizeT {t n : Nat} {T : Nat → Int} {σ : ho_S} {Q : ho_K} {X : ho_X} (ht : t < 80) (h : TXT σ t n T) : mX4_size [3, (t : Int)] σ Q X ↔ Q (n : Int) σ := by
  rw [sp_size ht, h.1]
theorem sp_signT {t n i : Nat} {T : Nat → Int} {σ : ho_S} {Q : ho_K} {X : ho_X} (ht : t < 80) (h : TXT σ t n T) : mX4_sign [3, (t : Int), (i : Int)] σ Q X ↔ Q (T i) σ := by
  have h1 := h.1
  have h2 := h.2.1
  rw [sp_sign ht (by omega), h.2.2]
theorem MTX_at {t n i : Nat} {T : Nat → Int} {σ : ho_S} (h : MTX σ t n T) (hi : i < n) : σ 42 (60 * t + i) = T i := by
  rw [← h.2.2, tx_in (by rw [h.1]; omega)]
theorem TXT_at {t n i : Nat} {T : Nat → Int} {σ : ho_S} (h : TXT σ t n T) (hi : i < n) : σ 18 (60 * t + i) = T i := by
  rw [← h.2.2, tx_in (by rw [h.1]; omega)]
theorem sp_widthFromT {t n a b : Nat} {T : Nat → Int} {σ : ho_S} {Q : ho_K} {X : ho_X} (ht : t < 48) (hT : MTX σ t n T) (hab : a ≤ b) (hb : b ≤ n) (h : Q (pre T b - pre T a) σ) : mX7_widthFrom [30, (t : Int), (a : Int), (b : Int)] σ Q X := by
  obtain ⟨h1, h2, h3⟩ := hT
  refine sp_widthFrom ht hab (by omega) (by omega) ?_
  rw [h3]
  exact h
