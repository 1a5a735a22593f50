-- the memories: the pairs by how long ago they were used, the longest first
abbrev TV : Type := Int × (Nat → Int)
def tv (f sz : Nat → Int) (x : Nat) : TV := (sz x, tx f sz x)
theorem tv_eq {f sz f' sz' : Nat → Int} {x y : Nat} (h1 : sz x = sz' y) (h2 : ∀ i : Nat, (i : Int) < sz x → f (60 * x + i) = f' (60 * y + i)) : tv f sz x = tv f' sz' y := by
  unfold tv
  rw [h1]
  congr 1
  funext i
  unfold tx
  by_cases q : (i : Int) < sz x
  · rw [if_pos q, if_pos (by rw [← h1]; exact q)]; exact h2 i q
  · rw [if_neg q, if_neg (by rw [← h1]; exact q)]
theorem tv_at {f sz f' sz' : Nat → Int} {x y : Nat} (h : tv f sz x = tv f' sz' y) : sz x = sz' y ∧ ∀ i : Nat, (i : Int) < sz x → f (60 * x + i) = f' (60 * y + i) := by
  have h1 : sz x = sz' y := congrArg Prod.fst h
  refine ⟨h1, fun i hi => ?_⟩
  have h2 : tx f sz x i = tx f' sz' y i := congrFun (congrArg Prod.snd h) i
  rw [tx_in hi, tx_in (by rw [← h1]; exact hi)] at h2
  exact h2
def psh {α : Type} (i : Nat) (E : Nat → α) (K : Nat) (z : α) (j : Nat) : α := if j + 1 < K then (if j < i then E j else E (j + 1)) else z
theorem psh_l {α : Type} {i K j : Nat} {E : Nat → α} {z : α} (h : j + 1 < K) (h2 : j < i) : psh i E K z j = E j := by unfold psh; rw [if_pos h, if_pos h2]
theorem psh_m {α : Type} {i K j : Nat} {E : Nat → α} {z : α} (h : j + 1 < K) (h2 : ¬ j < i) : psh i E K z j = E (j + 1) := by unfold psh; rw [if_pos h, if_neg h2]
theorem psh_z {α : Type} {i K j : Nat} {E : Nat → α} {z : α} (h : ¬ j + 1 < K) : psh i E K z j = z := if_neg h
/-- slots (or rows) a, b, us hold the pairs E: the n-th longest ago is at p n -/
def RF (a b : Nat → TV) (us : Nat → Int) (K : Nat) (ck : Int) (E : Nat → TV × TV) : Prop :=
  ∃ p : Nat → Nat, (∀ j, j < K → p j < K) ∧ (∀ i j, i < K → j < K → p i = p j → i = j) ∧ (∀ s, s < K → ∃ j, j < K ∧ p j = s) ∧ (∀ j, j < K → a (p j) = (E j).1 ∧ b (p j) = (E j).2) ∧ (∀ i j, i < j → j < K → us (p i) < us (p j)) ∧ ∀ j, j < K → us (p j) ≤ ck
theorem RF_congr {a b a' b' : Nat → TV} {us us' : Nat → Int} {K : Nat} {ck ck' : Int} {E : Nat → TV × TV} (h : RF a b us K ck E) (h1 : ∀ s, s < K → a' s = a s ∧ b' s = b s ∧ us' s = us s) (h2 : ck ≤ ck') : RF a' b' us' K ck' E := by
  obtain ⟨p, p1, p2, p3, p4, p5, p6⟩ := h
  refine ⟨p, p1, p2, p3, fun j hj => ?_, fun i j hij hj => ?_, fun j hj => ?_⟩
  · rw [(h1 _ (p1 j hj)).1, (h1 _ (p1 j hj)).2.1]; exact p4 j hj
  · rw [(h1 _ (p1 j hj)).2.2, (h1 _ (p1 i (by omega))).2.2]; exact p5 i j hij hj
  · rw [(h1 _ (p1 j hj)).2.2]; have := p6 j hj; omega
theorem RF_E {a b : Nat → TV} {us : Nat → Int} {K : Nat} {ck : Int} {E E' : Nat → TV × TV} (h : RF a b us K ck E) (e : ∀ j, j < K → E' j = E j) : RF a b us K ck E' := by
  obtain ⟨p, p1, p2, p3, p4, p5, p6⟩ := h
  exact ⟨p, p1, p2, p3, fun j hj => by rw [e j hj]; exact p4 j hj, p5, p6⟩
theorem RF_put {a b a' b' : Nat → TV} {us us' : Nat → Int} {K K' i s : Nat} {ck ck' : Int} {E : Nat → TV × TV} {z : TV × TV} {p : Nat → Nat}
    (p1 : ∀ j, j < K → p j < K) (p2 : ∀ i j, i < K → j < K → p i = p j → i = j) (p3 : ∀ s, s < K → ∃ j, j < K ∧ p j = s) (p4 : ∀ j, j < K → a (p j) = (E j).1 ∧ b (p j) = (E j).2) (p5 : ∀ i j, i < j → j < K → us (p i) < us (p j)) (p6 : ∀ j, j < K → us (p j) ≤ ck)
    (hi : (i < K ∧ K' = K ∧ s = p i) ∨ (i = K ∧ K' = K + 1 ∧ s = K)) (hc : ck < ck') (g1 : us' s = ck') (g3 : a' s = z.1 ∧ b' s = z.2) (g4 : ∀ x, x < K → x ≠ s → a' x = a x ∧ b' x = b x ∧ us' x = us x) : RF a' b' us' K' ck' (psh i E K' z) := by
  have P : ∀ j, j + 1 < K' → ∃ q, q < K ∧ psh i p K' s j = p q ∧ psh i E K' z j = E q ∧ p q ≠ s ∧ (j < i ∧ q = j ∨ i ≤ j ∧ q = j + 1) := by
    intro j hj
    by_cases q : j < i
    · refine ⟨j, by omega, psh_l hj q, psh_l hj q, fun e => ?_, Or.inl ⟨q, rfl⟩⟩
      rcases hi with ⟨a1, a2, a3⟩ | ⟨a1, a2, a3⟩
      · rw [a3] at e; have := p2 j i (by omega) a1 e; omega
      · have := p1 j (by omega); omega
    · refine ⟨j + 1, by omega, psh_m hj q, psh_m hj q, fun e => ?_, Or.inr ⟨by omega, rfl⟩⟩
      rcases hi with ⟨a1, a2, a3⟩ | ⟨a1, a2, a3⟩
      · rw [a3] at e; have := p2 (j + 1) i (by omega) a1 e; omega
      · have := p1 (j + 1) (by omega); omega
  have hs : s < K' := by
    rcases hi with ⟨a1, a2, a3⟩ | ⟨a1, a2, a3⟩
    · have := p1 i a1; omega
    · omega
  have hKK : K ≤ K' := by omega
  refine ⟨psh i p K' s, fun j hj => ?_, fun x y hx hy e => ?_, fun w hw => ?_, fun j hj => ?_, fun x y hxy hy => ?_, fun j hj => ?_⟩
  · by_cases q : j + 1 < K'
    · obtain ⟨w, h1, h2, _, _, _⟩ := P j q
      rw [h2]; have := p1 w h1; omega
    · rw [psh_z q]; exact hs
  · by_cases q : x + 1 < K' <;> by_cases r : y + 1 < K'
    · obtain ⟨w, h1, h2, _, h4, h5⟩ := P x q
      obtain ⟨w', h1', h2', _, h4', h5'⟩ := P y r
      rw [h2, h2'] at e
      have := p2 w w' h1 h1' e
      omega
    · obtain ⟨w, h1, h2, _, h4, h5⟩ := P x q
      rw [h2, psh_z r] at e
      exact absurd e h4
    · obtain ⟨w, h1, h2, _, h4, h5⟩ := P y r
      rw [h2, psh_z q] at e
      exact absurd e.symm h4
    · omega
  · by_cases q : w = s
    · exact ⟨K' - 1, by omega, by rw [psh_z (by omega), q]⟩
    · have hwK : w < K := by
        rcases hi with ⟨a1, a2, a3⟩ | ⟨a1, a2, a3⟩ <;> omega
      obtain ⟨j, hj, e⟩ := p3 w hwK
      have hji : j ≠ i := by
        rintro rfl
        rcases hi with ⟨a1, a2, a3⟩ | ⟨a1, a2, a3⟩
        · exact q (by rw [← e, a3])
        · omega
      by_cases r : j < i
      · exact ⟨j, by omega, by rw [psh_l (by omega) r, e]⟩
      · exact ⟨j - 1, by omega, by rw [psh_m (by omega) (by omega), show j - 1 + 1 = j by omega, e]⟩
  · by_cases q : j + 1 < K'
    · obtain ⟨w, h1, h2, h3, h4, _⟩ := P j q
      have := g4 (p w) (p1 w h1) h4
      rw [h2, h3, this.1, this.2.1]
      exact p4 w h1
    · rw [psh_z q, psh_z q]; exact g3
  · have hx : x + 1 < K' := by omega
    obtain ⟨w, h1, h2, _, h4, h5⟩ := P x hx
    rw [h2, (g4 (p w) (p1 w h1) h4).2.2]
    by_cases r : y + 1 < K'
    · obtain ⟨w', h1', h2', _, h4', h5'⟩ := P y r
      rw [h2', (g4 (p w') (p1 w' h1') h4').2.2]
      exact p5 w w' (by omega) h1'
    · rw [psh_z r, g1]
      have := p6 w h1
      omega
  · by_cases q : j + 1 < K'
    · obtain ⟨w, h1, h2, _, h4, _⟩ := P j q
      rw [h2, (g4 (p w) (p1 w h1) h4).2.2]
      have := p6 w h1
      omega
    · rw [psh_z q, g1]; exact Int.le_refl _
/-- one goes out from among the rows, and those behind it move down -/
theorem RF_drop {a b a' b' : Nat → TV} {us us' : Nat → Int} {K : Nat} {ck : Int} {E : Nat → TV × TV} {p : Nat → Nat}
    (p1 : ∀ j, j < K + 1 → p j < K + 1) (p2 : ∀ i j, i < K + 1 → j < K + 1 → p i = p j → i = j) (p3 : ∀ s, s < K + 1 → ∃ j, j < K + 1 ∧ p j = s) (p4 : ∀ j, j < K + 1 → a (p j) = (E j).1 ∧ b (p j) = (E j).2) (p5 : ∀ i j, i < j → j < K + 1 → us (p i) < us (p j)) (p6 : ∀ j, j < K + 1 → us (p j) ≤ ck)
    (g : ∀ x, x < K → (x < p 0 → a' x = a x ∧ b' x = b x ∧ us' x = us x) ∧ (p 0 ≤ x → a' x = a (x + 1) ∧ b' x = b (x + 1) ∧ us' x = us (x + 1))) : RF a' b' us' K ck (fun j => E (j + 1)) := by
  have h0 := p1 0 (by omega)
  obtain ⟨q, hq⟩ : ∃ q : Nat → Nat, q = fun j => if p (j + 1) < p 0 then p (j + 1) else p (j + 1) - 1 := ⟨_, rfl⟩
  have hq1 : ∀ j, j < K → q j < K ∧ a' (q j) = a (p (j + 1)) ∧ b' (q j) = b (p (j + 1)) ∧ us' (q j) = us (p (j + 1)) := by
    intro j hj
    have h1 := p1 (j + 1) (by omega)
    have h2 : p (j + 1) ≠ p 0 := fun e => by have := p2 (j + 1) 0 (by omega) (by omega) e; omega
    rw [hq]
    dsimp only
    by_cases c : p (j + 1) < p 0
    · rw [if_pos c]
      exact ⟨by omega, (g (p (j + 1)) (by omega)).1 c⟩
    · rw [if_neg c]
      have := (g (p (j + 1) - 1) (by omega)).2 (by omega)
      rw [show p (j + 1) - 1 + 1 = p (j + 1) by omega] at this
      exact ⟨by omega, this⟩
  refine ⟨q, fun j hj => (hq1 j hj).1, fun i j hi hj e => ?_, fun s hs => ?_, fun j hj => ?_, fun i j hij hj => ?_, fun j hj => ?_⟩
  · have a1 : p (i + 1) ≠ p 0 := fun e => by have := p2 (i + 1) 0 (by omega) (by omega) e; omega
    have a2 : p (j + 1) ≠ p 0 := fun e => by have := p2 (j + 1) 0 (by omega) (by omega) e; omega
    rw [hq] at e
    dsimp only at e
    have : p (i + 1) = p (j + 1) := by
      split at e <;> split at e <;> omega
    have := p2 (i + 1) (j + 1) (by omega) (by omega) this
    omega
  · by_cases c : s < p 0
    · obtain ⟨j, hj, e⟩ := p3 s (by omega)
      have : j ≠ 0 := by rintro rfl; omega
      refine ⟨j - 1, by omega, ?_⟩
      rw [hq]
      dsimp only
      rw [show j - 1 + 1 = j by omega, e, if_pos c]
    · obtain ⟨j, hj, e⟩ := p3 (s + 1) (by omega)
      have : j ≠ 0 := by rintro rfl; omega
      refine ⟨j - 1, by omega, ?_⟩
      rw [hq]
      dsimp only
      rw [show j - 1 + 1 = j by omega, e, if_neg (by omega)]
      omega
  · rw [(hq1 j hj).2.1, (hq1 j hj).2.2.1]; exact p4 (j + 1) (by omega)
  · rw [(hq1 i (by omega)).2.2.2, (hq1 j hj).2.2.2]; exact p5 (i + 1) (j + 1) (by omega) (by omega)
  · rw [(hq1 j hj).2.2.2]; exact p6 (j + 1) (by omega)
/-- no text of the first tongue twice -/
def DIST (E : Nat → TV × TV) (K : Nat) : Prop := ∀ i j, i < K → j < K → (E i).1 = (E j).1 → i = j
theorem DIST_psh {E : Nat → TV × TV} {K K' i : Nat} {z : TV × TV} (h : DIST E K) (hi : (i < K ∧ K' = K) ∨ (i = K ∧ K' = K + 1)) (hz : ∀ j, j < K → j ≠ i → (E j).1 ≠ z.1) : DIST (psh i E K' z) K' := by
  have P : ∀ j, j + 1 < K' → ∃ q, q < K ∧ psh i E K' z j = E q ∧ q ≠ i ∧ (j < i ∧ q = j ∨ i ≤ j ∧ q = j + 1) := by
    intro j hj
    by_cases q : j < i
    · exact ⟨j, by omega, psh_l hj q, by omega, Or.inl ⟨q, rfl⟩⟩
    · exact ⟨j + 1, by omega, psh_m hj q, by omega, Or.inr ⟨by omega, rfl⟩⟩
  intro x y hx hy e
  by_cases q : x + 1 < K' <;> by_cases r : y + 1 < K'
  · obtain ⟨w, h1, h2, h3, h4⟩ := P x q
    obtain ⟨w', h1', h2', h3', h4'⟩ := P y r
    rw [h2, h2'] at e
    have := h w w' h1 h1' e
    omega
  · obtain ⟨w, h1, h2, h3, h4⟩ := P x q
    rw [h2, psh_z r] at e
    exact absurd e (hz w h1 h3)
  · obtain ⟨w, h1, h2, h3, h4⟩ := P y r
    rw [h2, psh_z q] at e
    exact absurd e.symm (hz w h1 h3)
  · omega
/-- keeping y for x: what the pairs become -/
def KEEP (K : Nat) (E : Nat → TV × TV) (x y : TV) (K' : Nat) (E' : Nat → TV × TV) : Prop :=
  (∃ i, i < K ∧ (E i).1 = x ∧ K' = K ∧ E' = psh i E K (x, y)) ∨ ((∀ i, i < K → (E i).1 ≠ x) ∧ K < 8 ∧ K' = K + 1 ∧ E' = psh K E (K + 1) (x, y)) ∨ ((∀ i, i < K → (E i).1 ≠ x) ∧ K = 8 ∧ K' = 8 ∧ E' = psh 0 E 8 (x, y))
theorem KEEP_fun {K K1 K2 : Nat} {E E1 E2 : Nat → TV × TV} {x y : TV} (hd : DIST E K) (h1 : KEEP K E x y K1 E1) (h2 : KEEP K E x y K2 E2) : K1 = K2 ∧ E1 = E2 := by
  rcases h1 with ⟨i, a1, a2, a3, a4⟩ | ⟨a1, a2, a3, a4⟩ | ⟨a1, a2, a3, a4⟩ <;> rcases h2 with ⟨j, b1, b2, b3, b4⟩ | ⟨b1, b2, b3, b4⟩ | ⟨b1, b2, b3, b4⟩
  · have : i = j := hd i j a1 b1 (a2.trans b2.symm)
    subst this
    exact ⟨by rw [a3, b3], by rw [a4, b4]⟩
  · exact absurd a2 (b1 i a1)
  · exact absurd a2 (b1 i a1)
  · exact absurd b2 (a1 j b1)
  · exact ⟨by omega, by rw [a4, b4]⟩
  · omega
  · exact absurd b2 (a1 j b1)
  · omega
  · exact ⟨by omega, by rw [a4, b4]⟩
theorem KEEP_dist {K K' : Nat} {E E' : Nat → TV × TV} {x y : TV} (hd : DIST E K) (hK : K ≤ 8) (h : KEEP K E x y K' E') : DIST E' K' ∧ K' ≤ 8 := by
  rcases h with ⟨i, a1, a2, rfl, rfl⟩ | ⟨a1, a2, rfl, rfl⟩ | ⟨a1, rfl, rfl, rfl⟩
  · exact ⟨DIST_psh hd (Or.inl ⟨a1, rfl⟩) (fun j hj hji e => hji (hd j i hj a1 (e.trans a2.symm))), hK⟩
  · exact ⟨DIST_psh hd (Or.inr ⟨rfl, rfl⟩) (fun j hj _ => a1 j hj), by omega⟩
  · exact ⟨DIST_psh hd (Or.inl ⟨by omega, rfl⟩) (fun j hj _ => a1 j hj), by omega⟩
