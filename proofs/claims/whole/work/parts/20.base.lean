theorem nN_0 : (ho_N 0 : Int) = 14 := rfl
theorem nN_1 : (ho_N 1 : Int) = 7 := rfl
theorem nN_2 : (ho_N 2 : Int) = 5 := rfl
theorem nN_3 : (ho_N 3 : Int) = 2 := rfl
theorem nN_4 : (ho_N 4 : Int) = 5 := rfl
theorem nN_5 : (ho_N 5 : Int) = 5 := rfl
theorem nN_6 : (ho_N 6 : Int) = 5 := rfl
theorem nN_7 : (ho_N 7 : Int) = 2 := rfl
theorem nN_8 : (ho_N 8 : Int) = 4800 := rfl
theorem nN_9 : (ho_N 9 : Int) = 4800 := rfl
theorem nN_10 : (ho_N 10 : Int) = 4812 := rfl
theorem nN_11 : (ho_N 11 : Int) = 4812 := rfl
theorem nN_12 : (ho_N 12 : Int) = 12 := rfl
theorem nN_13 : (ho_N 13 : Int) = 16 := rfl
theorem nN_14 : (ho_N 14 : Int) = 16 := rfl
theorem nN_15 : (ho_N 15 : Int) = 16 := rfl
theorem nN_16 : (ho_N 16 : Int) = 16 := rfl
theorem nN_17 : (ho_N 17 : Int) = 16 := rfl
theorem nN_18 : (ho_N 18 : Int) = 4800 := rfl
theorem nN_19 : (ho_N 19 : Int) = 80 := rfl
theorem nN_20 : (ho_N 20 : Int) = 8 := rfl
theorem nN_21 : (ho_N 21 : Int) = 8 := rfl
theorem nN_22 : (ho_N 22 : Int) = 61 := rfl
theorem nN_23 : (ho_N 23 : Int) = 61 := rfl
theorem nN_24 : (ho_N 24 : Int) = 61 := rfl
theorem nN_25 : (ho_N 25 : Int) = 2400 := rfl
theorem nN_26 : (ho_N 26 : Int) = 16 := rfl
theorem nN_27 : (ho_N 27 : Int) = 384 := rfl
theorem nN_28 : (ho_N 28 : Int) = 48 := rfl
theorem nN_29 : (ho_N 29 : Int) = 16 := rfl
theorem nN_30 : (ho_N 30 : Int) = 32 := rfl
theorem nN_31 : (ho_N 31 : Int) = 12 := rfl
theorem nN_32 : (ho_N 32 : Int) = 4800 := rfl
theorem nN_33 : (ho_N 33 : Int) = 4800 := rfl
theorem nN_34 : (ho_N 34 : Int) = 4800 := rfl
theorem nN_35 : (ho_N 35 : Int) = 4800 := rfl
theorem nN_36 : (ho_N 36 : Int) = 16 := rfl
theorem nN_37 : (ho_N 37 : Int) = 16 := rfl
theorem nN_38 : (ho_N 38 : Int) = 16 := rfl
theorem nN_39 : (ho_N 39 : Int) = 16 := rfl
theorem nN_40 : (ho_N 40 : Int) = 16 := rfl
theorem nN_41 : (ho_N 41 : Int) = 48 := rfl
theorem nN_42 : (ho_N 42 : Int) = 2880 := rfl
theorem nN_43 : (ho_N 43 : Int) = 48 := rfl
theorem nN_44 : (ho_N 44 : Int) = 384 := rfl
theorem nN_45 : (ho_N 45 : Int) = 2 := rfl
theorem nN_46 : (ho_N 46 : Int) = 18 := rfl
theorem nN_47 : (ho_N 47 : Int) = 1080 := rfl
theorem nN_48 : (ho_N 48 : Int) = 18 := rfl
theorem nN_49 : (ho_N 49 : Int) = 1080 := rfl
theorem nN_50 : (ho_N 50 : Int) = 18 := rfl
theorem nN_51 : (ho_N 51 : Int) = 64 := rfl
theorem nN_52 : (ho_N 52 : Int) = 64 := rfl
theorem nN_53 : (ho_N 53 : Int) = 6000 := rfl
theorem nN_54 : (ho_N 54 : Int) = 1 := rfl
theorem nR_0_0 : (ho_R 0 0 : Int) = 1 := rfl
theorem nR_0_1 : (ho_R 0 1 : Int) = 2 := rfl
theorem nR_0_2 : (ho_R 0 2 : Int) = 3 := rfl
theorem nR_0_3 : (ho_R 0 3 : Int) = 4 := rfl
theorem nR_0_4 : (ho_R 0 4 : Int) = 5 := rfl
theorem nR_0_5 : (ho_R 0 5 : Int) = 6 := rfl
theorem nR_0_6 : (ho_R 0 6 : Int) = 7 := rfl
theorem nR_0_7 : (ho_R 0 7 : Int) = 26 := rfl
theorem nR_0_8 : (ho_R 0 8 : Int) = 27 := rfl
theorem nR_0_9 : (ho_R 0 9 : Int) = 28 := rfl
theorem nR_0_10 : (ho_R 0 10 : Int) = 29 := rfl
theorem nR_1_0 : (ho_R 1 0 : Int) = 8 := rfl
theorem nR_1_1 : (ho_R 1 1 : Int) = 9 := rfl
theorem nR_1_2 : (ho_R 1 2 : Int) = 10 := rfl
theorem nR_1_3 : (ho_R 1 3 : Int) = 11 := rfl
theorem nR_1_4 : (ho_R 1 4 : Int) = 12 := rfl
theorem nR_2_0 : (ho_R 2 0 : Int) = 13 := rfl
theorem nR_2_1 : (ho_R 2 1 : Int) = 14 := rfl
theorem nR_2_2 : (ho_R 2 2 : Int) = 15 := rfl
theorem nR_2_3 : (ho_R 2 3 : Int) = 16 := rfl
theorem nR_2_4 : (ho_R 2 4 : Int) = 17 := rfl
theorem nR_3_0 : (ho_R 3 0 : Int) = 18 := rfl
theorem nR_3_1 : (ho_R 3 1 : Int) = 19 := rfl
theorem nR_4_2 : (ho_R 4 2 : Int) = 20 := rfl
theorem nR_5_2 : (ho_R 5 2 : Int) = 21 := rfl
theorem nR_6_0 : (ho_R 6 0 : Int) = 22 := rfl
theorem nR_6_1 : (ho_R 6 1 : Int) = 23 := rfl
theorem nR_6_2 : (ho_R 6 2 : Int) = 24 := rfl
theorem nR_7_0 : (ho_R 7 0 : Int) = 25 := rfl
theorem nR_30_2 : (ho_R 30 2 : Int) = 31 := rfl
theorem nR_30_3 : (ho_R 30 3 : Int) = 32 := rfl
theorem nR_30_4 : (ho_R 30 4 : Int) = 33 := rfl
theorem nR_30_6 : (ho_R 30 6 : Int) = 34 := rfl
theorem nR_30_7 : (ho_R 30 7 : Int) = 35 := rfl
theorem nR_30_9 : (ho_R 30 9 : Int) = 36 := rfl
theorem nR_30_10 : (ho_R 30 10 : Int) = 37 := rfl
theorem nR_30_11 : (ho_R 30 11 : Int) = 38 := rfl
theorem nR_30_12 : (ho_R 30 12 : Int) = 39 := rfl
theorem nR_30_13 : (ho_R 30 13 : Int) = 40 := rfl
theorem nR_30_14 : (ho_R 30 14 : Int) = 41 := rfl
theorem nR_30_15 : (ho_R 30 15 : Int) = 42 := rfl
theorem nR_30_16 : (ho_R 30 16 : Int) = 43 := rfl
theorem nR_30_18 : (ho_R 30 18 : Int) = 44 := rfl
theorem nR_30_19 : (ho_R 30 19 : Int) = 45 := rfl
theorem nR_30_20 : (ho_R 30 20 : Int) = 46 := rfl
theorem nR_30_21 : (ho_R 30 21 : Int) = 47 := rfl
theorem nR_30_22 : (ho_R 30 22 : Int) = 48 := rfl
theorem nR_30_23 : (ho_R 30 23 : Int) = 49 := rfl
theorem nR_30_24 : (ho_R 30 24 : Int) = 50 := rfl
theorem nR_30_28 : (ho_R 30 28 : Int) = 51 := rfl
theorem nR_30_29 : (ho_R 30 29 : Int) = 52 := rfl
theorem nR_30_31 : (ho_R 30 31 : Int) = 53 := rfl
theorem u_eC {n : Int}  {v : List Int} {σ : ho_S} {K : ho_K} {X : ho_X} : eC n v σ K X ↔ K n σ := Iff.rfl
theorem u_eV {i : Nat}  {v : List Int} {σ : ho_S} {K : ho_K} {X : ho_X} : eV i v σ K X ↔ K (v.getD i 0) σ := Iff.rfl
theorem u_eF {f : ho_E} {j : Nat}  {v : List Int} {σ : ho_S} {K : ho_K} {X : ho_X} : eF f j v σ K X ↔ f v σ (fun r σ => K (σ r.toNat j) σ) X := Iff.rfl
theorem u_eR {f : ho_E} {j : Nat}  {v : List Int} {σ : ho_S} {K : ho_K} {X : ho_X} : eR f j v σ K X ↔ f v σ (fun r σ => K (ho_R r.toNat j : Int) σ) X := Iff.rfl
theorem u_eI {f g : ho_E}  {v : List Int} {σ : ho_S} {K : ho_K} {X : ho_X} : eI f g v σ K X ↔ f v σ (fun r σ => g v σ (fun i σ => (0 ≤ i ∧ i < (ho_N r.toNat : Int)) ∧ K (σ r.toNat i.toNat) σ) X) X := Iff.rfl
theorem u_eL {f : ho_E}  {v : List Int} {σ : ho_S} {K : ho_K} {X : ho_X} : eL f v σ K X ↔ f v σ (fun r σ => K (ho_N r.toNat : Int) σ) X := Iff.rfl
theorem u_eB {op : Int → Int → Int} {f g : ho_E}  {v : List Int} {σ : ho_S} {K : ho_K} {X : ho_X} : eB op f g v σ K X ↔ f v σ (fun a σ => g v σ (fun b σ => K (op a b) σ) X) X := Iff.rfl
theorem u_eD {f g : ho_E}  {v : List Int} {σ : ho_S} {K : ho_K} {X : ho_X} : eD f g v σ K X ↔ f v σ (fun a σ => g v σ (fun b σ => b ≠ 0 ∧ K (ho_w (Int.tdiv a b)) σ) X) X := Iff.rfl
theorem u_eM {f g : ho_E}  {v : List Int} {σ : ho_S} {K : ho_K} {X : ho_X} : eM f g v σ K X ↔ f v σ (fun a σ => g v σ (fun b σ => b ≠ 0 ∧ K (ho_w (Int.tmod a b)) σ) X) X := Iff.rfl
theorem u_eU {op : Int → Int} {f : ho_E}  {v : List Int} {σ : ho_S} {K : ho_K} {X : ho_X} : eU op f v σ K X ↔ f v σ (fun a σ => K (op a) σ) X := Iff.rfl
theorem u_aN  {v : List Int} {σ : ho_S} {K : List Int → ho_S → Prop} {X : ho_X} : aN  v σ K X ↔ K [] σ := Iff.rfl
theorem u_aC {f : ho_E} {t : ho_A}  {v : List Int} {σ : ho_S} {K : List Int → ho_S → Prop} {X : ho_X} : aC f t v σ K X ↔ f v σ (fun a σ => t v σ (fun l σ => K (a :: l) σ) X) X := Iff.rfl
theorem u_eK {M : ho_M} {as : ho_A}  {v : List Int} {σ : ho_S} {K : ho_K} {X : ho_X} : eK M as v σ K X ↔ as v σ (fun l σ => M l σ K X) X := Iff.rfl
theorem u_eT {c : ho_C} {f g : ho_E}  {v : List Int} {σ : ho_S} {K : ho_K} {X : ho_X} : eT c f g v σ K X ↔ c v σ (fun σ => f v σ K X) (fun σ => g v σ K X) X := Iff.rfl
theorem u_cLt {f g : ho_E}  {v : List Int} {σ : ho_S} {Kt : ho_S → Prop} {Kf : ho_S → Prop} {X : ho_X} : cLt f g v σ Kt Kf X ↔ f v σ (fun a σ => g v σ (fun b σ => (a < b → Kt σ) ∧ (b ≤ a → Kf σ)) X) X := Iff.rfl
theorem u_cLe {f g : ho_E}  {v : List Int} {σ : ho_S} {Kt : ho_S → Prop} {Kf : ho_S → Prop} {X : ho_X} : cLe f g v σ Kt Kf X ↔ f v σ (fun a σ => g v σ (fun b σ => (a ≤ b → Kt σ) ∧ (b < a → Kf σ)) X) X := Iff.rfl
theorem u_cGt {f g : ho_E}  {v : List Int} {σ : ho_S} {Kt : ho_S → Prop} {Kf : ho_S → Prop} {X : ho_X} : cGt f g v σ Kt Kf X ↔ f v σ (fun a σ => g v σ (fun b σ => (b < a → Kt σ) ∧ (a ≤ b → Kf σ)) X) X := Iff.rfl
theorem u_cGe {f g : ho_E}  {v : List Int} {σ : ho_S} {Kt : ho_S → Prop} {Kf : ho_S → Prop} {X : ho_X} : cGe f g v σ Kt Kf X ↔ f v σ (fun a σ => g v σ (fun b σ => (b ≤ a → Kt σ) ∧ (a < b → Kf σ)) X) X := Iff.rfl
theorem u_cEq {f g : ho_E}  {v : List Int} {σ : ho_S} {Kt : ho_S → Prop} {Kf : ho_S → Prop} {X : ho_X} : cEq f g v σ Kt Kf X ↔ f v σ (fun a σ => g v σ (fun b σ => (a = b → Kt σ) ∧ (a ≠ b → Kf σ)) X) X := Iff.rfl
theorem u_cNe {f g : ho_E}  {v : List Int} {σ : ho_S} {Kt : ho_S → Prop} {Kf : ho_S → Prop} {X : ho_X} : cNe f g v σ Kt Kf X ↔ f v σ (fun a σ => g v σ (fun b σ => (a ≠ b → Kt σ) ∧ (a = b → Kf σ)) X) X := Iff.rfl
theorem u_cAnd {c d : ho_C}  {v : List Int} {σ : ho_S} {Kt : ho_S → Prop} {Kf : ho_S → Prop} {X : ho_X} : cAnd c d v σ Kt Kf X ↔ c v σ (fun σ => d v σ Kt Kf X) Kf X := Iff.rfl
theorem u_cOr {c d : ho_C}  {v : List Int} {σ : ho_S} {Kt : ho_S → Prop} {Kf : ho_S → Prop} {X : ho_X} : cOr c d v σ Kt Kf X ↔ c v σ Kt (fun σ => d v σ Kt Kf X) X := Iff.rfl
theorem u_cNot {c : ho_C}  {v : List Int} {σ : ho_S} {Kt : ho_S → Prop} {Kf : ho_S → Prop} {X : ho_X} : cNot c v σ Kt Kf X ↔ c v σ Kf Kt X := Iff.rfl
theorem u_zN  {v : List Int} {σ : ho_S} {K : List Int → ho_S → Prop} {R : ho_K} {X : ho_X} : zN  v σ K R X ↔ K v σ := Iff.rfl
theorem u_zS {a b : ho_Z}  {v : List Int} {σ : ho_S} {K : List Int → ho_S → Prop} {R : ho_K} {X : ho_X} : zS a b v σ K R X ↔ a v σ (fun v σ => b v σ K R X) R X := Iff.rfl
theorem u_zD {f : ho_E}  {v : List Int} {σ : ho_S} {K : List Int → ho_S → Prop} {R : ho_K} {X : ho_X} : zD f v σ K R X ↔ f v σ (fun a σ => K (v ++ [a]) σ) X := Iff.rfl
theorem u_zL {i : Nat} {f : ho_E}  {v : List Int} {σ : ho_S} {K : List Int → ho_S → Prop} {R : ho_K} {X : ho_X} : zL i f v σ K R X ↔ f v σ (fun a σ => K (v.set i a) σ) X := Iff.rfl
theorem u_zI {i : Nat} {n : Int}  {v : List Int} {σ : ho_S} {K : List Int → ho_S → Prop} {R : ho_K} {X : ho_X} : zI i n v σ K R X ↔ K (v.set i (ho_w (v.getD i 0 + n))) σ := Iff.rfl
theorem u_zB {n : Nat} {a : ho_Z}  {v : List Int} {σ : ho_S} {K : List Int → ho_S → Prop} {R : ho_K} {X : ho_X} : zB n a v σ K R X ↔ a v σ (fun v σ => K (v.take n) σ) R X := Iff.rfl
theorem u_zP {f : ho_E} {j : Nat} {g : ho_E}  {v : List Int} {σ : ho_S} {K : List Int → ho_S → Prop} {R : ho_K} {X : ho_X} : zP f j g v σ K R X ↔ f v σ (fun r σ => g v σ (fun a σ => K v (ho_up σ r.toNat j a)) X) X := Iff.rfl
theorem u_zF {f : ho_E} {j : Nat} {op : Int → Int → Int} {g : ho_E}  {v : List Int} {σ : ho_S} {K : List Int → ho_S → Prop} {R : ho_K} {X : ho_X} : zF f j op g v σ K R X ↔ f v σ (fun r σ => g v σ (fun b σ' => K v (ho_up σ' r.toNat j (op (σ r.toNat j) b))) X) X := Iff.rfl
theorem u_zA {nar : Int → Int} {f g h : ho_E}  {v : List Int} {σ : ho_S} {K : List Int → ho_S → Prop} {R : ho_K} {X : ho_X} : zA nar f g h v σ K R X ↔ f v σ (fun r σ => g v σ (fun i σ => h v σ (fun a σ => (0 ≤ i ∧ i < (ho_N r.toNat : Int)) ∧ K v (ho_up σ r.toNat i.toNat (nar a))) X) X) X := Iff.rfl
theorem u_zU {f g : ho_E} {op : Int → Int → Int} {h : ho_E}  {v : List Int} {σ : ho_S} {K : List Int → ho_S → Prop} {R : ho_K} {X : ho_X} : zU f g op h v σ K R X ↔ f v σ (fun r σ => g v σ (fun i σ => (0 ≤ i ∧ i < (ho_N r.toNat : Int)) ∧ h v σ (fun b σ' => K v (ho_up σ' r.toNat i.toNat (op (σ r.toNat i.toNat) b))) X) X) X := Iff.rfl
theorem u_zC {c : ho_C} {a b : ho_Z}  {v : List Int} {σ : ho_S} {K : List Int → ho_S → Prop} {R : ho_K} {X : ho_X} : zC c a b v σ K R X ↔ c v σ (fun σ => a v σ K R X) (fun σ => b v σ K R X) X := Iff.rfl
theorem u_zR {f : ho_E}  {v : List Int} {σ : ho_S} {K : List Int → ho_S → Prop} {R : ho_K} {X : ho_X} : zR f v σ K R X ↔ f v σ (fun a σ => R a σ) X := Iff.rfl
theorem u_zRZ {f : ho_E}  {v : List Int} {σ : ho_S} {K : List Int → ho_S → Prop} {R : ho_K} {X : ho_X} : zRZ f v σ K R X ↔ f v σ (fun a σ => (a = 0 ∨ a = 1) ∧ R a σ) X := Iff.rfl
theorem u_zRC {f : ho_E}  {v : List Int} {σ : ho_S} {K : List Int → ho_S → Prop} {R : ho_K} {X : ho_X} : zRC f v σ K R X ↔ f v σ (fun a σ => (0 ≤ a ∧ a < 65536) ∧ R a σ) X := Iff.rfl
theorem u_zRV  {v : List Int} {σ : ho_S} {K : List Int → ho_S → Prop} {R : ho_K} {X : ho_X} : zRV  v σ K R X ↔ R 0 σ := Iff.rfl
theorem u_zT {ec : Nat}  {v : List Int} {σ : ho_S} {K : List Int → ho_S → Prop} {R : ho_K} {X : ho_X} : zT ec v σ K R X ↔ X ec σ := Iff.rfl
theorem u_zE {f : ho_E}  {v : List Int} {σ : ho_S} {K : List Int → ho_S → Prop} {R : ho_K} {X : ho_X} : zE f v σ K R X ↔ f v σ (fun _ σ => K v σ) X := Iff.rfl
theorem u_zK {M : ho_M} {as : ho_A}  {v : List Int} {σ : ho_S} {K : List Int → ho_S → Prop} {R : ho_K} {X : ho_X} : zK M as v σ K R X ↔ as v σ (fun l σ => M l σ (fun _ σ => K v σ) X) X := Iff.rfl
theorem u_zY {f g h i n : ho_E}  {v : List Int} {σ : ho_S} {K : List Int → ho_S → Prop} {R : ho_K} {X : ho_X} : zY f g h i n v σ K R X ↔ f v σ (fun r σ => g v σ (fun a σ => h v σ (fun q σ => i v σ (fun b σ => n v σ (fun k σ => (0 ≤ a ∧ 0 ≤ b ∧ 0 ≤ k ∧ a + k ≤ (ho_N r.toNat : Int) ∧ b + k ≤ (ho_N q.toNat : Int)) ∧ K v (fun k' j' => if k' = q.toNat then va_cpy (σ r.toNat) (σ q.toNat) a.toNat b.toNat k.toNat j' else σ k' j')) X) X) X) X) X := Iff.rfl
theorem ho_upF {σ : ho_S} {k j k' : Nat} {v : Int} (h : k' ≠ k) : ho_up σ k j v k' = σ k' := by funext j'; simp [ho_up, h]
theorem ho_upJ {σ : ho_S} {k j j' : Nat} {v : Int} (h : j' ≠ j) : ho_up σ k j v k j' = σ k j' := by simp [ho_up, h]
theorem ho_upE {σ : ho_S} {k j : Nat} {v : Int} : ho_up σ k j v k j = v := by simp [ho_up]
theorem ho_upA {σ : ho_S} {k j j' : Nat} {v : Int} : ho_up σ k j v k j' = if j' = j then v else σ k j' := by simp [ho_up]
/-- a whole cell put anew -/
def sa (σ : ho_S) (k : Nat) (g : Nat → Int) : ho_S := fun k' j => if k' = k then g j else σ k' j
theorem saF {σ : ho_S} {k k' : Nat} {g : Nat → Int} (h : k' ≠ k) : sa σ k g k' = σ k' := by funext j; simp [sa, h]
theorem saE {σ : ho_S} {k : Nat} {g : Nat → Int} : sa σ k g k = g := by funext j; simp [sa]
theorem sa_id {σ : ho_S} {k : Nat} : sa σ k (σ k) = σ := by
  funext k' j; unfold sa; split
  · subst_vars; rfl
  · rfl
theorem sa_up {σ : ho_S} {k j : Nat} {v : Int} {g : Nat → Int} : ho_up (sa σ k g) k j v = sa σ k (fun j' => if j' = j then v else g j') := by
  funext k' j'
  unfold ho_up sa
  by_cases h : k' = k
  · subst h; by_cases h2 : j' = j <;> simp [h2]
  · simp [h]
theorem sa_sa {σ : ho_S} {k : Nat} {g h : Nat → Int} : sa (sa σ k g) k h = sa σ k h := by
  funext k' j'; unfold sa; split <;> rfl
theorem sa_of {σ : ho_S} {k j : Nat} {v : Int} : ho_up σ k j v = sa σ k (fun j' => if j' = j then v else σ k j') := by
  funext k' j'
  unfold ho_up sa
  by_cases h : k' = k
  · subst h; by_cases h2 : j' = j <;> simp [h2]
  · simp [h]
theorem sa_congr {σ : ho_S} {k : Nat} {g h : Nat → Int} (e : ∀ j, g j = h j) : sa σ k g = sa σ k h := by rw [funext e]
theorem wE {x : Int} (h1 : -2147483648 ≤ x) (h2 : x < 2147483648) : ho_w x = x := ho_w_eq ⟨h1, h2⟩
def gi (σ : ho_S) (r i : Int) : Int := if 0 ≤ i ∧ i < (ho_N r.toNat : Int) then σ r.toNat i.toNat else 0
def si (σ : ho_S) (r i v : Int) : ho_S := if 0 ≤ i ∧ i < (ho_N r.toNat : Int) then ho_up σ r.toNat i.toNat v else σ
theorem sp_item {r i : Int} {σ : ho_S} {Q : ho_K} {X : ho_X} : mX6_item [r, i] σ Q X ↔ Q (gi σ r i) σ := by
  simp only [mX6_item, fX6_item, zN, zS, zD, zL, zI, zB, zP, zF, zA, zU, zC, zR, zRZ, zRC, zRV, zT, zE, zK, zY, eC, eV, eF, eR, eI, eL, eB, eD, eM, eU, eK, eT, aN, aC, cLt, cLe, cGt, cGe, cEq, cNe, cAnd, cOr, cNot, ho_nid, List.getD_cons_zero, List.getD_cons_succ, List.set_cons_zero, List.set_cons_succ, List.cons_append, List.nil_append, List.take_succ_cons, List.take_zero, Int.reduceToNat, Int.toNat_natCast]
  unfold gi
  constructor
  · intro h
    by_cases h1 : i < 0
    · rw [if_neg (by omega)]; exact h.2 h1
    · by_cases h2 : (ho_N r.toNat : Int) ≤ i
      · rw [if_neg (by omega)]; exact (h.1 (by omega)).2 h2
      · rw [if_pos (by omega)]; exact ((h.1 (by omega)).1 (by omega)).2
  · intro h
    refine ⟨fun a => ⟨fun b => ⟨⟨a, b⟩, ?_⟩, fun b => ?_⟩, fun a => ?_⟩
    · rw [if_pos ⟨a, b⟩] at h; exact h
    · rw [if_neg (by omega)] at h; exact h
    · rw [if_neg (by omega)] at h; exact h
theorem sp_store {r i v : Int} {σ : ho_S} {Q : ho_K} {X : ho_X} : mX6_store [r, i, v] σ Q X ↔ Q 0 (si σ r i v) := by
  simp only [mX6_store, fX6_store, zN, zS, zD, zL, zI, zB, zP, zF, zA, zU, zC, zR, zRZ, zRC, zRV, zT, zE, zK, zY, eC, eV, eF, eR, eI, eL, eB, eD, eM, eU, eK, eT, aN, aC, cLt, cLe, cGt, cGe, cEq, cNe, cAnd, cOr, cNot, ho_nid, List.getD_cons_zero, List.getD_cons_succ, List.set_cons_zero, List.set_cons_succ, List.cons_append, List.nil_append, List.take_succ_cons, List.take_zero, Int.reduceToNat, Int.toNat_natCast]
  unfold si
  constructor
  · intro h
    by_cases h1 : i < 0
    · rw [if_neg (by omega)]; exact h.2 h1
    · by_cases h2 : (ho_N r.toNat : Int) ≤ i
      · rw [if_neg (by omega)]; exact (h.1 (by omega)).2 h2
      · rw [if_pos (by omega)]; exact ((h.1 (by omega)).1 (by omega)).2
  · intro h
    refine ⟨fun a => ⟨fun b => ⟨⟨a, b⟩, ?_⟩, fun b => ?_⟩, fun a => ?_⟩
    · rw [if_pos ⟨a, b⟩] at h; exact h
    · rw [if_neg (by omega)] at h; exact h
    · rw [if_neg (by omega)] at h; exact h
theorem sp_bit {n : Int} {σ : ho_S} {Q : ho_K} {X : ho_X} : mX6_bit [n] σ Q X ↔ Q (ho_oshl 1 n) σ := by
  simp only [mX6_bit, fX6_bit, zN, zS, zD, zL, zI, zB, zP, zF, zA, zU, zC, zR, zRZ, zRC, zRV, zT, zE, zK, zY, eC, eV, eF, eR, eI, eL, eB, eD, eM, eU, eK, eT, aN, aC, cLt, cLe, cGt, cGe, cEq, cNe, cAnd, cOr, cNot, ho_nid, List.getD_cons_zero, List.getD_cons_succ, List.set_cons_zero, List.set_cons_succ, List.cons_append, List.nil_append, List.take_succ_cons, List.take_zero, Int.reduceToNat, Int.toNat_natCast]
theorem sp_textOf {c t : Int} {σ : ho_S} {Q : ho_K} {X : ho_X} : mX6_textOf [c, t] σ Q X ↔ Q (ho_w (ho_w (c * 3) + t)) σ := by
  simp only [mX6_textOf, fX6_textOf, zN, zS, zD, zL, zI, zB, zP, zF, zA, zU, zC, zR, zRZ, zRC, zRV, zT, zE, zK, zY, eC, eV, eF, eR, eI, eL, eB, eD, eM, eU, eK, eT, aN, aC, cLt, cLe, cGt, cGe, cEq, cNe, cAnd, cOr, cNot, ho_nid, List.getD_cons_zero, List.getD_cons_succ, List.set_cons_zero, List.set_cons_succ, List.cons_append, List.nil_append, List.take_succ_cons, List.take_zero, Int.reduceToNat, Int.toNat_natCast, ho_oadd, ho_omul]
theorem sp_isMarked {m c : Int} {σ : ho_S} {Q : ho_K} {X : ho_X} : mX6_isMarked [m, c] σ Q X ↔ Q (if ho_oand m (ho_oshl 1 c) ≠ 0 then 1 else 0) σ := by
  simp only [mX6_isMarked, fX6_isMarked, zN, zS, zD, zL, zI, zB, zP, zF, zA, zU, zC, zR, zRZ, zRC, zRV, zT, zE, zK, zY, eC, eV, eF, eR, eI, eL, eB, eD, eM, eU, eK, eT, aN, aC, cLt, cLe, cGt, cGe, cEq, cNe, cAnd, cOr, cNot, ho_nid, List.getD_cons_zero, List.getD_cons_succ, List.set_cons_zero, List.set_cons_succ, List.cons_append, List.nil_append, List.take_succ_cons, List.take_zero, Int.reduceToNat, Int.toNat_natCast, sp_bit]
  constructor
  · intro h
    by_cases h1 : ho_oand m (ho_oshl 1 c) = 0
    · rw [if_neg (by omega)]; exact (h.2 h1).2
    · rw [if_pos h1]; exact (h.1 h1).2
  · intro h
    refine ⟨fun a => ⟨by simp, ?_⟩, fun a => ⟨by simp, ?_⟩⟩
    · rw [if_pos a] at h; exact h
    · rw [if_neg (by omega)] at h; exact h
/-- System.arraycopy's effect -/
def cp (σ : ho_S) (r a q b n : Int) : ho_S := sa σ q.toNat (fun j => if b.toNat ≤ j ∧ j < b.toNat + n.toNat then σ r.toNat (a.toNat + (j - b.toNat)) else σ q.toNat j)
theorem sp_copyItems {r a q b n : Int} {σ : ho_S} {Q : ho_K} {X : ho_X} (h1 : 0 ≤ a) (h2 : 0 ≤ b) (h3 : 0 ≤ n) (h4 : a + n ≤ (ho_N r.toNat : Int)) (h5 : b + n ≤ (ho_N q.toNat : Int)) (h6 : (ho_N r.toNat : Int) < 100000) (h7 : (ho_N q.toNat : Int) < 100000) (h : Q 0 (cp σ r a q b n)) : mX6_copyItems [r, a, q, b, n] σ Q X := by
  simp only [mX6_copyItems, fX6_copyItems, zN, zS, zD, zL, zI, zB, zP, zF, zA, zU, zC, zR, zRZ, zRC, zRV, zT, zE, zK, zY, eC, eV, eF, eR, eI, eL, eB, eD, eM, eU, eK, eT, aN, aC, cLt, cLe, cGt, cGe, cEq, cNe, cAnd, cOr, cNot, ho_nid, List.getD_cons_zero, List.getD_cons_succ, List.set_cons_zero, List.set_cons_succ, List.cons_append, List.nil_append, List.take_succ_cons, List.take_zero, Int.reduceToNat, Int.toNat_natCast, ho_osub]
  rw [wE (x := (ho_N r.toNat : Int) - n) (by omega) (by omega), wE (x := (ho_N q.toNat : Int) - n) (by omega) (by omega)]
  have e0 : n = 0 → cp σ r a q b n = σ := by
    intro h0
    subst h0
    funext k j
    unfold cp sa
    split
    · subst_vars
      dsimp only
      rw [if_neg (by omega)]
    · rfl
  refine ⟨fun c1 => ⟨fun c2 => ⟨fun c3 => ⟨fun c4 => ⟨fun c5 => ⟨by omega, h⟩, fun c5 => by omega⟩, fun c4 => by omega⟩, fun c3 => by omega⟩, fun c2 => by omega⟩, fun c1 => ?_⟩
  rw [e0 (by omega)] at h
  exact h
theorem gi_in {σ : ho_S} {r i : Int} (h0 : 0 ≤ i) (h1 : i < (ho_N r.toNat : Int)) : gi σ r i = σ r.toNat i.toNat := if_pos ⟨h0, h1⟩
theorem si_in {σ : ho_S} {r i v : Int} (h0 : 0 ≤ i) (h1 : i < (ho_N r.toNat : Int)) : si σ r i v = ho_up σ r.toNat i.toNat v := if_pos ⟨h0, h1⟩
/-- counting -/
def cnt (P : Nat → Bool) : Nat → Int
  | 0 => 0
  | n + 1 => cnt P n + (if P n then 1 else 0)
theorem cnt_range (P : Nat → Bool) (n : Nat) : 0 ≤ cnt P n ∧ cnt P n ≤ n := by
  induction n with
  | zero => simp [cnt]
  | succ n ih => unfold cnt; split <;> omega
theorem cnt_congr {P R : Nat → Bool} {n : Nat} (h : ∀ i, i < n → P i = R i) : cnt P n = cnt R n := by
  induction n with
  | zero => rfl
  | succ n ih => unfold cnt; rw [ih (fun i hi => h i (by omega)), h n (by omega)]
theorem cnt_more {P : Nat → Bool} {n m : Nat} (hn : n ≤ m) (h : ∀ i, n ≤ i → i < m → P i = false) : cnt P m = cnt P n := by
  induction m with
  | zero => rw [show n = 0 by omega]
  | succ m ih =>
    by_cases e : n = m + 1
    · rw [e]
    · rw [show cnt P (m + 1) = cnt P m + (if P m then 1 else 0) from rfl, ih (by omega) (fun i a b => h i a (by omega)), h m (by omega) (by omega)]; simp
/-- no more places than things -/
theorem pigeon : ∀ (N n : Nat) (f : Nat → Nat), (∀ i, i < n → f i < N) → (∀ i j, i < n → j < n → f i = f j → i = j) → n ≤ N
  | 0, n, f, h1, _ => by
    rcases Nat.eq_zero_or_pos n with h | h
    · omega
    · exact absurd (h1 0 h) (by omega)
  | N + 1, 0, f, _, _ => by omega
  | N + 1, n + 1, f, h1, h2 => by
    have h := pigeon N n (fun i => if f i = N then f n else f i) (fun i hi => by
      have a := h1 i (by omega)
      have b := h1 n (by omega)
      split
      · have c : f n ≠ N := fun q => by
          have := h2 i n (by omega) (by omega) (by omega)
          omega
        omega
      · omega) (fun i j hi hj h => by
      split at h <;> split at h
      · exact h2 i j (by omega) (by omega) (by omega)
      · have := h2 n j (by omega) (by omega) h
        omega
      · have := h2 i n (by omega) (by omega) h
        omega
      · exact h2 i j (by omega) (by omega) h)
    omega
theorem nLt {a b : Int} {P R : Prop} : ((a < b → P) ∧ (b ≤ a → R)) ↔ if a < b then P else R := by
  by_cases h : a < b
  · rw [if_pos h]; exact ⟨fun q => q.1 h, fun q => ⟨fun _ => q, fun z => by omega⟩⟩
  · rw [if_neg h]; exact ⟨fun q => q.2 (by omega), fun q => ⟨fun z => by omega, fun _ => q⟩⟩
theorem nLe {a b : Int} {P R : Prop} : ((a ≤ b → P) ∧ (b < a → R)) ↔ if a ≤ b then P else R := by
  by_cases h : a ≤ b
  · rw [if_pos h]; exact ⟨fun q => q.1 h, fun q => ⟨fun _ => q, fun z => by omega⟩⟩
  · rw [if_neg h]; exact ⟨fun q => q.2 (by omega), fun q => ⟨fun z => by omega, fun _ => q⟩⟩
theorem nEq {a b : Int} {P R : Prop} : ((a = b → P) ∧ (a ≠ b → R)) ↔ if a = b then P else R := by
  by_cases h : a = b
  · rw [if_pos h]; exact ⟨fun q => q.1 h, fun q => ⟨fun _ => q, fun z => absurd h z⟩⟩
  · rw [if_neg h]; exact ⟨fun q => q.2 h, fun q => ⟨fun z => absurd z h, fun _ => q⟩⟩
theorem nNe {a b : Int} {P R : Prop} : ((a ≠ b → P) ∧ (a = b → R)) ↔ if a = b then R else P := by
  by_cases h : a = b
  · rw [if_pos h]; exact ⟨fun q => q.2 h, fun q => ⟨fun z => absurd h z, fun _ => q⟩⟩
  · rw [if_neg h]; exact ⟨fun q => q.1 h, fun q => ⟨fun _ => q, fun z => absurd z h⟩⟩
theorem n01 {P : Prop} : (((1 : Int) = 0 ∨ (1 : Int) = 1) ∧ P) ↔ P := by simp
theorem n00 {P : Prop} : (((0 : Int) = 0 ∨ (0 : Int) = 1) ∧ P) ↔ P := by simp
theorem ite_q {c : Prop} [Decidable c] {Q : ho_K} {a b : Int} {σ : ho_S} : (if c then Q a σ else Q b σ) ↔ Q (if c then a else b) σ := by split <;> exact Iff.rfl
/-- a loop: what holds at its head, with a number that falls; the two ways on are given by what they need -/
theorem zW_rule {c : ho_C} {b : ho_Z} {v : List Int} {σ : ho_S} {K : List Int → ho_S → Prop} {R : ho_K} {X : ho_X} (J : List Int → ho_S → Nat → Prop) (n0 : Nat) (h0 : J v σ n0)
    (hstep : ∀ (v : List Int) (σ : ho_S) (n : Nat), J v σ n → ∀ (KK : List Int → ho_S → Prop) (KE : ho_S → Prop), (∀ v' σ' k, k < n → J v' σ' k → KK v' σ') → (∀ σ', K v σ' → KE σ') → c v σ (fun σ => b v σ KK R X) KE X) : zW c b v σ K R X :=
  ⟨J, ⟨n0, h0⟩, fun v σ n hJ => hstep v σ n hJ (fun v σ => ∃ k, k < n ∧ J v σ k) (fun σ => K v σ) (fun v' σ' k hk hJ => ⟨k, hk, hJ⟩) (fun _ h => h)⟩
