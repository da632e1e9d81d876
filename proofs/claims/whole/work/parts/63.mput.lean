def sp_lin (T : Int) (v : Int × Int) : Int := v.1 * T + v.2
def sp_sp1 (T : Int) (y : Int × Int × Int) : Int × Int × Int := ((sp_tp T (y.1, y.2.1)).1, (sp_tp T (y.1, y.2.1)).2 + 1, (sp_tp T (y.1, y.2.1)).1)
theorem sp_pu_s {T : Int} : ∀ (n : Nat) (y : Int × Int × Int), sp_pu T (n + 1) y = sp_sp1 T (sp_pu T n y) := by
  intro n
  induction n with
  | zero => intro y; rfl
  | succ n ih => intro y; rw [show sp_pu T (n + 1 + 1) y = sp_pu T (n + 1) (sp_sp1 T y) from rfl, ih]; rfl
theorem sp_lin_tp {T : Int} {pg us : Int} (h : us ≤ T) : sp_lin T (sp_tp T (pg, us)) = sp_lin T (pg, us) := by
  unfold sp_tp sp_lin
  by_cases c : T ≤ us
  · rw [if_pos c]; simp only; rw [Int.add_mul]; omega
  · rw [if_neg c]
/-- range and place of the n-th step -/
theorem sp_pu_lin {T : Int} (hT : 1 ≤ T) {pg us la : Int} (h : 0 ≤ us ∧ us ≤ T) : ∀ n : Nat, (0 ≤ (sp_pu T n (pg, us, la)).2.1 ∧ (sp_pu T n (pg, us, la)).2.1 ≤ T) ∧ sp_lin T ((sp_pu T n (pg, us, la)).1, (sp_pu T n (pg, us, la)).2.1) = sp_lin T (pg, us) + (n : Int) := by
  intro n
  induction n with
  | zero => exact ⟨h, by simp [sp_pu]⟩
  | succ n ih =>
    rw [sp_pu_s]
    generalize sp_pu T n (pg, us, la) = y at ih ⊢
    have h1 := sp_tp_rng (T := T) (pg := y.1) hT ih.1
    have h2 := sp_lin_tp (T := T) (pg := y.1) ih.1.2
    rw [ih.2] at h2
    unfold sp_sp1
    refine ⟨by simp only; omega, ?_⟩
    unfold sp_lin at h2 ⊢
    simp only at h2 ⊢
    omega
theorem sp_lin_eq {T p l q k : Int} (h1 : 0 ≤ l ∧ l < T) (h2 : 0 ≤ k ∧ k < T) : sp_lin T (p, l) = sp_lin T (q, k) ↔ (p = q ∧ l = k) := by
  unfold sp_lin; simp only
  constructor
  · intro h
    have hp : p = q := by
      by_cases c : p < q
      · exfalso
        have : (p + 1) * T ≤ q * T := Int.mul_le_mul_of_nonneg_right (by omega) (by omega)
        rw [Int.add_mul] at this
        omega
      · by_cases c2 : q < p
        · exfalso
          have : (q + 1) * T ≤ p * T := Int.mul_le_mul_of_nonneg_right (by omega) (by omega)
          rw [Int.add_mul] at this
          omega
        · omega
    exact ⟨hp, by rw [hp] at h; omega⟩
  · intro h; rw [h.1, h.2]
/-- which line of a block that begins at v is wanted -/
def sp_dd (T P L : Int) (v : Int × Int) : Int := if 0 ≤ L ∧ L < T then sp_lin T (P, L) - sp_lin T v else -1
theorem sp_dd_hit {T P L pg us la : Int} (hT : 1 ≤ T) (h : 0 ≤ us ∧ us ≤ T) (n : Nat) : (sp_dd T P L (pg, us) = (n : Int)) ↔ ((sp_tp T ((sp_pu T n (pg, us, la)).1, (sp_pu T n (pg, us, la)).2.1)).1 = P ∧ (sp_tp T ((sp_pu T n (pg, us, la)).1, (sp_pu T n (pg, us, la)).2.1)).2 = L) := by
  obtain ⟨h1, h2⟩ := sp_pu_lin (la := la) hT h n
  generalize sp_pu T n (pg, us, la) = y at h1 h2 ⊢
  have h3 := sp_tp_rng (T := T) (pg := y.1) hT h1
  have h4 := sp_lin_tp (T := T) (pg := y.1) h1.2
  rw [h2] at h4
  unfold sp_dd
  by_cases c : 0 ≤ L ∧ L < T
  · rw [if_pos c]
    have h5 := sp_lin_eq (T := T) (p := (sp_tp T (y.1, y.2.1)).1) (l := (sp_tp T (y.1, y.2.1)).2) (q := P) (k := L) h3.1 c
    rw [show ((sp_tp T (y.1, y.2.1)).1, (sp_tp T (y.1, y.2.1)).2) = sp_tp T (y.1, y.2.1) from rfl, h4] at h5
    rw [← h5]
    constructor <;> intro h <;> omega
  · rw [if_neg c]
    constructor
    · intro h; omega
    · intro h; exfalso; apply c; rw [← h.2]; exact h3.1
/-- the layout under way: the lines C of block j are put; the block begins at y0 -/
def sp_PL (b : Nat) (J : dz_Hp) (W T P L : Int) (j : Nat) (k : Int) (y0 : Int × Int × Int) (W0 : Int → Int) (C : List (List Int)) : Prop :=
  (J (b + 130) 21 = (sp_pu T C.length y0).1 ∧ J (b + 130) 22 = (sp_pu T C.length y0).2.1 ∧ J (b + 130) 23 = (sp_pu T C.length y0).2.2) ∧ (J (b + 130) 24 = P ∧ J (b + 130) 25 = L) ∧ J (b + 144) (j : Int) = (if C = [] then -1 else 32 * (sp_tp T (y0.1, y0.2.1)).1 + (sp_tp T (y0.1, y0.2.1)).2) ∧ ∀ v : Int, 0 ≤ v → v < 40 → J (b + 143) v = (if 0 ≤ sp_dd T P L (y0.1, y0.2.1) ∧ sp_dd T P L (y0.1, y0.2.1) < (C.length : Int) then sp_col W k C (sp_dd T P L (y0.1, y0.2.1)).toNat v else W0 v)
def sp_fl (b j : Nat) (I J : dz_Hp) : Prop := sp_fr I J (fun q => q = b + 130 ∨ q = b + 142 ∨ q = b + 143 ∨ q = b + 144) ∧ (∀ k : Int, k ≠ 19 → k ≠ 21 → k ≠ 22 → k ≠ 23 → J (b + 130) k = I (b + 130) k) ∧ ∀ i : Int, i ≠ (j : Int) → J (b + 144) i = I (b + 144) i
theorem sp_fl.rf {b j : Nat} {I : dz_Hp} : sp_fl b j I I := ⟨sp_fr.rf, fun _ _ _ _ _ => rfl, fun _ _ => rfl⟩
theorem sp_fl.tr {b j : Nat} {I J K : dz_Hp} (h1 : sp_fl b j I J) (h2 : sp_fl b j J K) : sp_fl b j I K := ⟨h1.1.tr h2.1 (fun _ h => h), fun k a1 a2 a3 a4 => (h2.2.1 k a1 a2 a3 a4).trans (h1.2.1 k a1 a2 a3 a4), fun i hi => (h2.2.2 i hi).trans (h1.2.2 i hi)⟩
theorem sp_fl.at {b j : Nat} {I J : dz_Hp} (h : sp_fl b j I J) {q : Nat} (h1 : q < b + 142) (h2 : q ≠ b + 130) : J q = I q := h.1 q (fun z => by rcases z with z | z | z | z <;> omega)
def sp_rw (b : Nat) (J : dz_Hp) (r : List Int) : Prop := J (b + 130) 19 = (r.length : Int) ∧ r.length ≤ 40 ∧ ∀ (i : Nat) (e : Int), r[i]? = some e → J (b + 142) (i : Int) = e
theorem sp_col_app {W k : Int} {C D : List (List Int)} {q : Nat} (h : q < C.length) (v : Int) : sp_col W k (C ++ D) q v = sp_col W k C q v := by
  unfold sp_col; rw [show (C ++ D).getD q [] = C.getD q [] by rw [List.getD_eq_getElem?_getD, List.getD_eq_getElem?_getD, List.getElem?_append_left h]]
theorem sp_col_last {W k : Int} {C : List (List Int)} {r : List Int} (v : Int) : sp_col W k (C ++ [r]) C.length v = if 0 ≤ v - sp_off W k r C.length ∧ v - sp_off W k r C.length < (r.length : Int) then r.getD (v - sp_off W k r C.length).toNat 0 else 0 := by
  unfold sp_col; rw [show (C ++ [r]).getD C.length [] = r by rw [List.getD_eq_getElem?_getD, List.getElem?_append_right (by omega)]; simp]
/-- the constants of the layout -/
def sp_LC (b : Nat) (J : dz_Hp) (W T : Int) (j : Nat) (k : Int) : Prop := (J (b + 130) 1 = W ∧ J (b + 130) 2 = T + 1) ∧ J (b + 137) (j : Int) = k ∧ (10 ≤ W ∧ W ≤ 40) ∧ (3 ≤ T ∧ T ≤ 19) ∧ (0 ≤ k ∧ k ≤ 3) ∧ j < 12
theorem sp_LC.fl {b : Nat} {I J : dz_Hp} {W T : Int} {j i : Nat} {k : Int} (h : sp_LC b I W T j k) (hf : sp_fl b i I J) : sp_LC b J W T j k := by
  unfold sp_LC; rw [hf.2.1 1 (by decide) (by decide) (by decide) (by decide), hf.2.1 2 (by decide) (by decide) (by decide) (by decide), hf.at (by omega) (by omega)]; exact h
theorem sp_put_col {b : Nat} {I : dz_Hp} {W T P L k p0 u0 : Int} {W0 : Int → Int} {C : List (List Int)} {r : List Int} {v : Int} (hW0 : 0 ≤ sp_dd T P L (p0, u0) → ∀ v : Int, W0 v = 0) (h : I (b + 143) v = (if 0 ≤ sp_dd T P L (p0, u0) ∧ sp_dd T P L (p0, u0) < (C.length : Int) then sp_col W k C (sp_dd T P L (p0, u0)).toNat v else W0 v)) :
    (if sp_dd T P L (p0, u0) = (C.length : Int) ∧ 0 ≤ v - sp_off W k r (C.length : Int) ∧ v - sp_off W k r (C.length : Int) < (r.length : Int) then r.getD (v - sp_off W k r (C.length : Int)).toNat 0 else I (b + 143) v) = (if 0 ≤ sp_dd T P L (p0, u0) ∧ sp_dd T P L (p0, u0) < ((C ++ [r]).length : Int) then sp_col W k (C ++ [r]) (sp_dd T P L (p0, u0)).toNat v else W0 v) := by
  have el : ((C ++ [r]).length : Int) = (C.length : Int) + 1 := by simp
  generalize sp_dd T P L (p0, u0) = d at *
  rw [el]
  by_cases c1 : d = (C.length : Int)
  · subst c1
    rw [if_pos (c := 0 ≤ (C.length : Int) ∧ (C.length : Int) < (C.length : Int) + 1) (by omega), show ((C.length : Int)).toNat = C.length by omega, sp_col_last]
    by_cases c2 : 0 ≤ v - sp_off W k r (C.length : Int) ∧ v - sp_off W k r (C.length : Int) < (r.length : Int)
    · rw [if_pos ⟨rfl, c2⟩, if_pos c2]
    · rw [if_neg (fun z => c2 z.2), if_neg c2, h, if_neg (by omega), hW0 (by omega) v]
  · rw [if_neg (fun z => c1 z.1), h]
    by_cases c2 : 0 ≤ d ∧ d < (C.length : Int)
    · rw [if_pos c2, if_pos (by omega), sp_col_app (by omega)]
    · rw [if_neg c2, if_neg (by omega)]
set_option maxRecDepth 100000 in
set_option maxHeartbeats 4000000 in
theorem c_Model_putLine (l : Launch) (D : va_G) (Dt : Nat → ClassId) (b sz : Nat) (I : dz_Hp) (W T P L : Int) (j : Nat) (k : Int) (LI : sp_LC b I W T j k) (hPL : (-2147483648 ≤ P ∧ P < 2147483648) ∧ -2147483648 ≤ L ∧ L < 2147483648) (y0 : Int × Int × Int) (hy : (0 ≤ y0.2.1 ∧ y0.2.1 ≤ T) ∧ (0 ≤ y0.1 ∧ y0.1 ≤ 5000) ∧ y0.2.2 ≤ y0.1 ∧ 0 ≤ y0.2.2) (W0 : Int → Int) (hW0 : 0 ≤ sp_dd T P L (y0.1, y0.2.1) → ∀ v : Int, W0 v = 0) (C : List (List Int)) (hC : C.length ≤ 210) (PI : sp_PL b I W T P L j k y0 W0 C) (r : List Int) (RI : sp_rw b I r) (hr : 1 ≤ r.length ∧ (r.length : Int) ≤ W - sp_ind k (C.length : Int)) : ly_M l D Dt b sz y_Model_putLine b_Model_putLine 5 none 1 [.ref (b + 130), .int (dz_i (j : Int)), .int (dz_i (sp_ind k (C.length : Int)))] I (fun v I' => v = none ∧ sp_fl b j I I' ∧ sp_PL b I' W T P L j k y0 W0 (C ++ [r]) ∧ I' (b + 130) 19 = 0) := by
  refine ly_enter R_Model (by decide) rfl (Nat.le_of_ble_eq_true rfl) (ly_cat _ 0 rfl) (fun κ x => ?_)
  have hN := ly_N x
  obtain ⟨p0, u0, a0⟩ := y0
  simp only at hy
  have hW := LI.2.2.1
  have hT := LI.2.2.2.1
  have hk := LI.2.2.2.2.1
  have hj := LI.2.2.2.2.2
  have hyn := sp_pu_lin (pg := p0) (la := a0) (by omega : 1 ≤ T) hy.1 C.length
  have hyr := sp_pu_rng (T := T) (by omega) C.length p0 u0 a0 hy.1 hy.2.2.1
  have htp := sp_tp_rng (T := T) (pg := (sp_pu T C.length (p0, u0, a0)).1) (by omega : 1 ≤ T) hyn.1
  have hir := sp_ind_rng k (C.length : Int)
  have hrl := RI.2.1
  have htr0 := sp_tp_rng (T := T) (pg := p0) (by omega : 1 ≤ T) hy.1
  simp only at hW0
  have hdd := sp_dd_hit (P := P) (L := L) (pg := p0) (la := a0) (by omega : 1 ≤ T) hy.1 C.length
  have k55 : ∀ (J2 : dz_Hp), (∀ a, a ≠ b + 130 ∧ a ≠ b + 144 → J2 a = I a) → (∀ k : Int, k ≠ 21 → k ≠ 22 → J2 (b + 130) k = I (b + 130) k) → (∀ i : Int, i ≠ (j : Int) → J2 (b + 144) i = I (b + 144) i) → (J2 (b + 130) 21 = (sp_tp T ((sp_pu T C.length (p0, u0, a0)).1, (sp_pu T C.length (p0, u0, a0)).2.1)).1) → (J2 (b + 130) 22 = (sp_tp T ((sp_pu T C.length (p0, u0, a0)).1, (sp_pu T C.length (p0, u0, a0)).2.1)).2) → (J2 (b + 144) (j : Int) = 32 * (sp_tp T (p0, u0)).1 + (sp_tp T (p0, u0)).2) → ly_V κ b sz J2 55 [(0, .ref (b + 130)), (1, .int (dz_i (j : Int))), (2, .int (dz_i (sp_ind k (C.length : Int))))] [] := by
    intro J2 hF2 hK2 hP2 k21 k22 kP2
    have kW : J2 (b + 130) 1 = W := by rw [hK2 _ (by decide) (by decide)]; exact LI.1.1
    have kT : J2 (b + 130) 2 = T + 1 := by rw [hK2 _ (by decide) (by decide)]; exact LI.1.2
    have kK : J2 (b + 137) (j : Int) = k := by rw [hF2 _ (by omega)]; exact LI.2.1
    have kR : J2 (b + 130) 19 = (r.length : Int) := by rw [hK2 _ (by decide) (by decide)]; exact RI.1
    have k24 : J2 (b + 130) 24 = P := by rw [hK2 _ (by decide) (by decide)]; exact PI.2.1.1
    have k25 : J2 (b + 130) 25 = L := by rw [hK2 _ (by decide) (by decide)]; exact PI.2.1.2
    have kM : J2 (b + 142) = I (b + 142) := hF2 _ (by omega)
    have kD : J2 (b + 143) = I (b + 143) := hF2 _ (by omega)
    have hof : 0 ≤ (sp_off W k r (C.length : Int)) ∧ (sp_off W k r (C.length : Int)) + (r.length : Int) ≤ W := by unfold sp_off; split <;> omega
    have k137 : ∀ (J3 : dz_Hp) (q9 : Int), (∀ a, a ≠ b + 143 → J3 a = J2 a) → (∀ v : Int, 0 ≤ v → v < 40 → J3 (b + 143) v = (if sp_dd T P L (p0, u0) = (C.length : Int) ∧ 0 ≤ v - (sp_off W k r (C.length : Int)) ∧ v - (sp_off W k r (C.length : Int)) < (r.length : Int) then r.getD (v - (sp_off W k r (C.length : Int))).toNat 0 else I (b + 143) v)) → ly_V κ b sz J3 137 [(0, .ref (b + 130)), (1, .int (dz_i (j : Int))), (2, .int (dz_i (sp_ind k (C.length : Int)))), (3, .int (dz_i (sp_off W k r (C.length : Int)))), (4, .int (dz_i q9))] [] := by
      intro J3 q9 hF3 hwn
      refine dz_aload_n x.1 0 d_Model_putLine_137 rfl rfl ?_
      refine dz_aload_n x.1 0 d_Model_putLine_138 rfl rfl ?_
      refine dz_geti (z := (sp_tp T ((sp_pu T C.length (p0, u0, a0)).1, (sp_pu T C.length (p0, u0, a0)).2.1)).1) x.1 (ly_Model b) fl_Model_170 d_Model_putLine_139 (by rw [hF3 _ (by omega)]; exact k21) ?_
      refine dz_puti x.1 (ly_Model b) fl_Model_182 fp_Model_23 d_Model_putLine_142 ?_
      refine dz_aload_n x.1 0 d_Model_putLine_145 rfl rfl ?_
      refine dz_dup x.1 d_Model_putLine_146 rfl ?_
      refine dz_geti (z := (sp_tp T ((sp_pu T C.length (p0, u0, a0)).1, (sp_pu T C.length (p0, u0, a0)).2.1)).2) x.1 (ly_Model b) fl_Model_167 d_Model_putLine_147 (by rw [dz_up_k _ _ _ (by omega)]; exact (by rw [hF3 _ (by omega)]; exact k22)) ?_
      refine dz_iconst x.1 d_Model_putLine_150 ?_
      refine dz_iadd (z := (sp_tp T ((sp_pu T C.length (p0, u0, a0)).1, (sp_pu T C.length (p0, u0, a0)).2.1)).2 + 1) x.1 d_Model_putLine_151 (by omega) ?_
      refine dz_puti x.1 (ly_Model b) fl_Model_167 fp_Model_22 d_Model_putLine_152 ?_
      refine dz_aload_n x.1 0 d_Model_putLine_155 rfl rfl ?_
      refine dz_iconst x.1 d_Model_putLine_156 ?_
      refine dz_puti x.1 (ly_Model b) fl_Model_173 fp_Model_19 d_Model_putLine_157 ?_
      have hD : ∀ a, a ≠ b + 130 → (dz_up (dz_up (dz_up J3 (b + 130) 23 ((sp_tp T ((sp_pu T C.length (p0, u0, a0)).1, (sp_pu T C.length (p0, u0, a0)).2.1)).1)) (b + 130) 22 ((sp_tp T ((sp_pu T C.length (p0, u0, a0)).1, (sp_pu T C.length (p0, u0, a0)).2.1)).2 + 1)) (b + 130) 19 0) a = J3 a := fun a ha => by (repeat rw [dz_up_n _ _ _ ha])
      have hfl : sp_fl b j I (dz_up (dz_up (dz_up J3 (b + 130) 23 ((sp_tp T ((sp_pu T C.length (p0, u0, a0)).1, (sp_pu T C.length (p0, u0, a0)).2.1)).1)) (b + 130) 22 ((sp_tp T ((sp_pu T C.length (p0, u0, a0)).1, (sp_pu T C.length (p0, u0, a0)).2.1)).2 + 1)) (b + 130) 19 0) := ⟨fun a ha => by
          have ha := not_or.mp ha
          rw [hD a ha.1, hF3 a (not_or.mp (not_or.mp ha.2).2).1, hF2 a ⟨ha.1, (not_or.mp (not_or.mp ha.2).2).2⟩], fun k a1 a2 a3 a4 => by rw [dz_up_k _ _ _ a1, dz_up_k _ _ _ a3, dz_up_k _ _ _ a4, hF3 _ (by omega)]; exact hK2 k a2 a3, fun i hi => by rw [hD _ (by omega), hF3 _ (by omega)]; exact hP2 i hi⟩
      have hps : sp_pu T (C ++ [r]).length (p0, u0, a0) = ((sp_tp T ((sp_pu T C.length (p0, u0, a0)).1, (sp_pu T C.length (p0, u0, a0)).2.1)).1, (sp_tp T ((sp_pu T C.length (p0, u0, a0)).1, (sp_pu T C.length (p0, u0, a0)).2.1)).2 + 1, (sp_tp T ((sp_pu T C.length (p0, u0, a0)).1, (sp_pu T C.length (p0, u0, a0)).2.1)).1) := by rw [List.length_append, show C.length + [r].length = C.length + 1 from rfl, sp_pu_s]; rfl
      have hPL9 : sp_PL b (dz_up (dz_up (dz_up J3 (b + 130) 23 ((sp_tp T ((sp_pu T C.length (p0, u0, a0)).1, (sp_pu T C.length (p0, u0, a0)).2.1)).1)) (b + 130) 22 ((sp_tp T ((sp_pu T C.length (p0, u0, a0)).1, (sp_pu T C.length (p0, u0, a0)).2.1)).2 + 1)) (b + 130) 19 0) W T P L j k (p0, u0, a0) W0 (C ++ [r]) := by
        refine ⟨⟨?_, ?_, ?_⟩, ⟨?_, ?_⟩, ?_, fun v h1 h2 => ?_⟩
        · rw [hps, dz_up_k _ _ _ (by decide), dz_up_k _ _ _ (by decide), dz_up_k _ _ _ (by decide), hF3 _ (by omega)]; exact k21
        · rw [hps, dz_up_k _ _ _ (by decide), dz_up_s]
        · rw [hps, dz_up_k _ _ _ (by decide), dz_up_k _ _ _ (by decide), dz_up_s]
        · rw [hfl.2.1 24 (by decide) (by decide) (by decide) (by decide)]; exact PI.2.1.1
        · rw [hfl.2.1 25 (by decide) (by decide) (by decide) (by decide)]; exact PI.2.1.2
        · rw [hD _ (by omega), hF3 _ (by omega), if_neg (by simp)]; exact kP2
        · rw [hD _ (by omega)]
          have h9 := hwn v h1 h2
          rw [h9]
          exact sp_put_col hW0 (PI.2.2.2 v h1 h2)
      exact ly_vret x d_Model_putLine_160 ⟨rfl, hfl, hPL9, by rw [dz_up_s]⟩
    have loop : ∀ (k9 : Nat) (q : Nat) (J3 : dz_Hp), (q + k9 = r.length) → (∀ a, a ≠ b + 143 → J3 a = J2 a) → (∀ v : Int, 0 ≤ v → v < 40 → J3 (b + 143) v = (if sp_dd T P L (p0, u0) = (C.length : Int) ∧ 0 ≤ v - (sp_off W k r (C.length : Int)) ∧ v - (sp_off W k r (C.length : Int)) < (q : Int) then r.getD (v - (sp_off W k r (C.length : Int))).toNat 0 else I (b + 143) v)) → ly_V κ b sz J3 84 [(0, .ref (b + 130)), (1, .int (dz_i (j : Int))), (2, .int (dz_i (sp_ind k (C.length : Int)))), (3, .int (dz_i (sp_off W k r (C.length : Int)))), (4, .int (dz_i (q : Int)))] [] := by
      intro k9
      induction k9 with
      | zero =>
        intro q J3 hq hF3 hwn
        refine dz_iload x.1 4 d_Model_putLine_84 rfl ?_
        refine dz_aload_n x.1 0 d_Model_putLine_86 rfl rfl ?_
        refine dz_geti (z := (r.length : Int)) x.1 (ly_Model b) fl_Model_173 d_Model_putLine_87 (by rw [hF3 _ (by omega)]; exact kR) ?_
        refine dz_icmp_ge (tgt := 137) x.1 d_Model_putLine_90 (by decide) (by omega) (by omega) (fun hc90 => ?_) (fun hc90 => by exfalso; omega)
        refine k137 J3 _ hF3 (fun v h1 h2 => ?_)
        rw [hwn v h1 h2]
        first
          | (have eq : q = r.length := by omega
             rw [eq])
          | (have hnd : ¬ sp_dd T P L (p0, u0) = (C.length : Int) := fun z => by
               have z := hdd.mp z
               first | exact hc101 z.1 | exact hc112 z.2
             rw [if_neg (fun z => hnd z.1), if_neg (fun z => hnd z.1)])
      | succ k9 ih =>
        intro q J3 hq hF3 hwn
        refine dz_iload x.1 4 d_Model_putLine_84 rfl ?_
        refine dz_aload_n x.1 0 d_Model_putLine_86 rfl rfl ?_
        refine dz_geti (z := (r.length : Int)) x.1 (ly_Model b) fl_Model_173 d_Model_putLine_87 (by rw [hF3 _ (by omega)]; exact kR) ?_
        refine dz_icmp_ge (tgt := 137) x.1 d_Model_putLine_90 (by decide) (by omega) (by omega) (fun hc90 => by exfalso; omega) (fun hc90 => ?_)
        refine dz_aload_n x.1 0 d_Model_putLine_93 rfl rfl ?_
        refine dz_geti (z := (sp_tp T ((sp_pu T C.length (p0, u0, a0)).1, (sp_pu T C.length (p0, u0, a0)).2.1)).1) x.1 (ly_Model b) fl_Model_170 d_Model_putLine_94 (by rw [hF3 _ (by omega)]; exact k21) ?_
        refine dz_aload_n x.1 0 d_Model_putLine_97 rfl rfl ?_
        refine dz_geti (z := P) x.1 (ly_Model b) fl_Model_176 d_Model_putLine_98 (by rw [hF3 _ (by omega)]; exact k24) ?_
        refine dz_icmp_ne (tgt := 137) x.1 d_Model_putLine_101 (by decide) (by omega) (by omega) (fun hc101 => ?_) (fun hc101 => ?_)
        · refine k137 J3 _ hF3 (fun v h1 h2 => ?_)
          rw [hwn v h1 h2]
          first
            | (have eq : q = r.length := by omega
               rw [eq])
            | (have hnd : ¬ sp_dd T P L (p0, u0) = (C.length : Int) := fun z => by
                 have z := hdd.mp z
                 first | exact hc101 z.1 | exact hc112 z.2
               rw [if_neg (fun z => hnd z.1), if_neg (fun z => hnd z.1)])
        · refine dz_aload_n x.1 0 d_Model_putLine_104 rfl rfl ?_
          refine dz_geti (z := (sp_tp T ((sp_pu T C.length (p0, u0, a0)).1, (sp_pu T C.length (p0, u0, a0)).2.1)).2) x.1 (ly_Model b) fl_Model_167 d_Model_putLine_105 (by rw [hF3 _ (by omega)]; exact k22) ?_
          refine dz_aload_n x.1 0 d_Model_putLine_108 rfl rfl ?_
          refine dz_geti (z := L) x.1 (ly_Model b) fl_Model_179 d_Model_putLine_109 (by rw [hF3 _ (by omega)]; exact k25) ?_
          refine dz_icmp_ne (tgt := 137) x.1 d_Model_putLine_112 (by decide) (by omega) (by omega) (fun hc112 => ?_) (fun hc112 => ?_)
          · refine k137 J3 _ hF3 (fun v h1 h2 => ?_)
            rw [hwn v h1 h2]
            first
              | (have eq : q = r.length := by omega
                 rw [eq])
              | (have hnd : ¬ sp_dd T P L (p0, u0) = (C.length : Int) := fun z => by
                   have z := hdd.mp z
                   first | exact hc101 z.1 | exact hc112 z.2
                 rw [if_neg (fun z => hnd z.1), if_neg (fun z => hnd z.1)])
          · refine dz_aload_n x.1 0 d_Model_putLine_115 rfl rfl ?_
            refine dz_getr x.1 (ly_Model b) fl_Model_51 (lr_Model_26 b) d_Model_putLine_116 ?_
            refine dz_iload_n x.1 3 d_Model_putLine_119 rfl rfl ?_
            refine dz_iload x.1 4 d_Model_putLine_120 rfl ?_
            refine dz_iadd (z := (sp_off W k r (C.length : Int)) + (q : Int)) x.1 d_Model_putLine_122 (by omega) ?_
            refine dz_aload_n x.1 0 d_Model_putLine_123 rfl rfl ?_
            refine dz_getr x.1 (ly_Model b) fl_Model_48 (lr_Model_20 b) d_Model_putLine_124 ?_
            refine dz_iload x.1 4 d_Model_putLine_127 rfl ?_
            refine dz_iald (w := (r.getD q 0)) x.1 (ly_MRow b) (by decide) (by omega) d_Model_putLine_129 (by rw [hF3 _ (by omega), kM]; exact RI.2.2 q _ (by rw [List.getD_eq_getElem?_getD, List.getElem?_eq_getElem (by omega)]; rfl)) ?_
            refine dz_iast x.1 (ly_MWanted b) (by decide) (by omega) d_Model_putLine_130 ?_
            refine dz_iinc (z := (q : Int) + 1) (ls' := [(0, .ref (b + 130)), (1, .int (dz_i (j : Int))), (2, .int (dz_i (sp_ind k (C.length : Int)))), (3, .int (dz_i (sp_off W k r (C.length : Int)))), (4, .int (dz_i ((q : Int) + 1)))]) x.1 4 d_Model_putLine_131 rfl hN (by decide) (by omega) rfl ?_
            refine dz_goto (tgt := 84) x.1 d_Model_putLine_134 (by decide) ?_
            have hhd : sp_dd T P L (p0, u0) = (C.length : Int) := hdd.mpr ⟨hc101, hc112⟩
            have hw9 : ∀ v : Int, 0 ≤ v → v < 40 → (dz_up J3 (b + 143) ((sp_off W k r (C.length : Int)) + (q : Int)) (r.getD q 0)) (b + 143) v = (if sp_dd T P L (p0, u0) = (C.length : Int) ∧ 0 ≤ v - (sp_off W k r (C.length : Int)) ∧ v - (sp_off W k r (C.length : Int)) < ((q + 1 : Nat) : Int) then r.getD (v - (sp_off W k r (C.length : Int))).toNat 0 else I (b + 143) v) := by
              intro v h1 h2
              by_cases c : v = (sp_off W k r (C.length : Int)) + (q : Int)
              · rw [c, dz_up_s, if_pos ⟨hhd, by omega, by omega⟩, show ((sp_off W k r (C.length : Int)) + (q : Int) - (sp_off W k r (C.length : Int))).toNat = q by omega]
              · rw [dz_up_k _ _ _ c, hwn v h1 h2]
                by_cases c2 : 0 ≤ v - (sp_off W k r (C.length : Int)) ∧ v - (sp_off W k r (C.length : Int)) < (q : Int)
                · rw [if_pos ⟨hhd, c2⟩, if_pos ⟨hhd, by omega, by omega⟩]
                · rw [if_neg (fun z => c2 z.2), if_neg (fun z => c2 ⟨z.2.1, by omega⟩)]
            have h9 := ih (q + 1) (dz_up J3 (b + 143) ((sp_off W k r (C.length : Int)) + (q : Int)) (r.getD q 0)) (by omega) (fun a ha => by rw [dz_up_n _ _ _ ha]; exact hF3 a ha) hw9
            rw [show ((q + 1 : Nat) : Int) = (q : Int) + 1 by omega] at h9
            exact h9
    refine dz_aload_n x.1 0 d_Model_putLine_55 rfl rfl ?_
    refine dz_getr x.1 (ly_Model b) fl_Model_33 (lr_Model_13 b) d_Model_putLine_56 ?_
    refine dz_iload_n x.1 1 d_Model_putLine_59 rfl rfl ?_
    refine dz_iald (w := k) x.1 (ly_MBlockKind b) (by decide) (by omega) d_Model_putLine_60 kK ?_
    refine dz_iconst x.1 d_Model_putLine_61 ?_
    refine dz_icmp_ne (tgt := 79) x.1 d_Model_putLine_62 (by decide) (by omega) (by omega) (fun hc62 => ?_) (fun hc62 => ?_)
    · refine dz_iload_n x.1 2 d_Model_putLine_79 rfl rfl ?_
      refine dz_istore_n (ls' := [(0, .ref (b + 130)), (1, .int (dz_i (j : Int))), (2, .int (dz_i (sp_ind k (C.length : Int)))), (3, .int (dz_i (sp_ind k (C.length : Int))))]) x.1 d_Model_putLine_80 rfl hN (by decide) rfl ?_
      refine dz_iconst x.1 d_Model_putLine_81 ?_
      refine dz_istore (ls' := [(0, .ref (b + 130)), (1, .int (dz_i (j : Int))), (2, .int (dz_i (sp_ind k (C.length : Int)))), (3, .int (dz_i (sp_ind k (C.length : Int)))), (4, .int (dz_i 0))]) x.1 d_Model_putLine_82 hN (by decide) rfl ?_
      have h9 := loop r.length 0 J2 (by omega) (fun a ha => rfl) (fun v h1 h2 => by rw [if_neg (by omega), kD])
      have ho9 : (sp_off W k r (C.length : Int)) = (sp_ind k (C.length : Int)) := by unfold sp_off; first | exact if_pos (by omega) | exact if_neg (by omega)
      rw [ho9] at h9
      exact h9
    · refine dz_aload_n x.1 0 d_Model_putLine_65 rfl rfl ?_
      refine dz_geti (z := W) x.1 (ly_Model b) fl_Model_57 d_Model_putLine_66 kW ?_
      refine dz_aload_n x.1 0 d_Model_putLine_69 rfl rfl ?_
      refine dz_geti (z := (r.length : Int)) x.1 (ly_Model b) fl_Model_173 d_Model_putLine_70 kR ?_
      refine dz_isub (z := W - (r.length : Int)) x.1 d_Model_putLine_73 (by omega) ?_
      refine dz_iconst x.1 d_Model_putLine_74 ?_
      refine dz_idiv x.1 d_Model_putLine_75 (by omega) (by omega) ?_
      refine dz_goto (tgt := 80) x.1 d_Model_putLine_76 (by decide) ?_
      refine dz_istore_n (ls' := [(0, .ref (b + 130)), (1, .int (dz_i (j : Int))), (2, .int (dz_i (sp_ind k (C.length : Int)))), (3, .int (dz_i ((W - (r.length : Int)) / 2)))]) x.1 d_Model_putLine_80 rfl hN (by decide) rfl ?_
      refine dz_iconst x.1 d_Model_putLine_81 ?_
      refine dz_istore (ls' := [(0, .ref (b + 130)), (1, .int (dz_i (j : Int))), (2, .int (dz_i (sp_ind k (C.length : Int)))), (3, .int (dz_i ((W - (r.length : Int)) / 2))), (4, .int (dz_i 0))]) x.1 d_Model_putLine_82 hN (by decide) rfl ?_
      have h9 := loop r.length 0 J2 (by omega) (fun a ha => rfl) (fun v h1 h2 => by rw [if_neg (by omega), kD])
      have ho9 : (sp_off W k r (C.length : Int)) = ((W - (r.length : Int)) / 2) := by unfold sp_off; first | exact if_pos (by omega) | exact if_neg (by omega)
      rw [ho9] at h9
      exact h9
  have k28 : ∀ (J1 : dz_Hp), (∀ a, a ≠ b + 130 → J1 a = I a) → (∀ k : Int, k ≠ 21 → k ≠ 22 → J1 (b + 130) k = I (b + 130) k) → (J1 (b + 130) 21 = (sp_tp T ((sp_pu T C.length (p0, u0, a0)).1, (sp_pu T C.length (p0, u0, a0)).2.1)).1) → (J1 (b + 130) 22 = (sp_tp T ((sp_pu T C.length (p0, u0, a0)).1, (sp_pu T C.length (p0, u0, a0)).2.1)).2) → ly_V κ b sz J1 28 [(0, .ref (b + 130)), (1, .int (dz_i (j : Int))), (2, .int (dz_i (sp_ind k (C.length : Int))))] [] := by
    intro J1 hF1 hK1 k21 k22
    have k144 : J1 (b + 144) (j : Int) = (if C = [] then -1 else 32 * (sp_tp T (p0, u0)).1 + (sp_tp T (p0, u0)).2) := by rw [hF1 _ (by omega)]; exact PI.2.2.1
    have hif : -1 ≤ (if C = [] then -1 else 32 * (sp_tp T (p0, u0)).1 + (sp_tp T (p0, u0)).2) ∧ (if C = [] then -1 else 32 * (sp_tp T (p0, u0)).1 + (sp_tp T (p0, u0)).2) ≤ 200000 := by split <;> omega
    refine dz_aload_n x.1 0 d_Model_putLine_28 rfl rfl ?_
    refine dz_getr x.1 (ly_Model b) fl_Model_54 (lr_Model_27 b) d_Model_putLine_29 ?_
    refine dz_iload_n x.1 1 d_Model_putLine_32 rfl rfl ?_
    refine dz_iald (w := (if C = [] then -1 else 32 * (sp_tp T (p0, u0)).1 + (sp_tp T (p0, u0)).2)) x.1 (ly_MPlaces b) (by decide) (by omega) d_Model_putLine_33 k144 ?_
    refine dz_if_ge (tgt := 55) x.1 d_Model_putLine_34 (by decide) (by omega) (fun hc34 => ?_) (fun hc34 => ?_)
    · have hCn : ¬ C = [] := fun z => by rw [if_pos z] at hc34; omega
      exact k55 J1 (fun a ha => hF1 a ha.1) hK1 (fun i hi => by rw [hF1 _ (by omega)]) k21 k22 (by rw [k144, if_neg hCn])
    · refine dz_aload_n x.1 0 d_Model_putLine_37 rfl rfl ?_
      refine dz_getr x.1 (ly_Model b) fl_Model_54 (lr_Model_27 b) d_Model_putLine_38 ?_
      refine dz_iload_n x.1 1 d_Model_putLine_41 rfl rfl ?_
      refine dz_bipush x.1 d_Model_putLine_42 (by decide) ?_
      refine dz_aload_n x.1 0 d_Model_putLine_44 rfl rfl ?_
      refine dz_geti (z := (sp_tp T ((sp_pu T C.length (p0, u0, a0)).1, (sp_pu T C.length (p0, u0, a0)).2.1)).1) x.1 (ly_Model b) fl_Model_170 d_Model_putLine_45 k21 ?_
      refine dz_imul (z := 32 * (sp_tp T ((sp_pu T C.length (p0, u0, a0)).1, (sp_pu T C.length (p0, u0, a0)).2.1)).1) x.1 d_Model_putLine_48 (by omega) ?_
      refine dz_aload_n x.1 0 d_Model_putLine_49 rfl rfl ?_
      refine dz_geti (z := (sp_tp T ((sp_pu T C.length (p0, u0, a0)).1, (sp_pu T C.length (p0, u0, a0)).2.1)).2) x.1 (ly_Model b) fl_Model_167 d_Model_putLine_50 k22 ?_
      refine dz_iadd (z := 32 * (sp_tp T ((sp_pu T C.length (p0, u0, a0)).1, (sp_pu T C.length (p0, u0, a0)).2.1)).1 + (sp_tp T ((sp_pu T C.length (p0, u0, a0)).1, (sp_pu T C.length (p0, u0, a0)).2.1)).2) x.1 d_Model_putLine_53 (by omega) ?_
      refine dz_iast x.1 (ly_MPlaces b) (by decide) (by omega) d_Model_putLine_54 ?_
      have hCn : C = [] := by
        by_cases z : C = []
        · exact z
        · exfalso; rw [if_neg z] at hc34; omega
      exact k55 _ (fun a ha => by rw [dz_up_n _ _ _ ha.2]; exact hF1 a ha.1) (fun k a1 a2 => by rw [dz_up_n _ _ _ (by omega)]; exact hK1 k a1 a2) (fun i hi => by rw [dz_up_k _ _ _ hi, hF1 _ (by omega)]) (by rw [dz_up_n _ _ _ (by omega)]; exact k21) (by rw [dz_up_n _ _ _ (by omega)]; exact k22) (by rw [dz_up_s, hCn]; rfl)
  show ly_V κ b sz I 0 [(0, .ref (b + 130)), (1, .int (dz_i (j : Int))), (2, .int (dz_i (sp_ind k (C.length : Int))))] []
  refine dz_aload_n x.1 0 d_Model_putLine_0 rfl rfl ?_
  refine dz_geti (z := (sp_pu T C.length (p0, u0, a0)).2.1) x.1 (ly_Model b) fl_Model_167 d_Model_putLine_1 PI.1.2.1 ?_
  refine dz_aload_n x.1 0 d_Model_putLine_4 rfl rfl ?_
  refine dz_geti (z := T + 1) x.1 (ly_Model b) fl_Model_60 d_Model_putLine_5 LI.1.2 ?_
  refine dz_iconst x.1 d_Model_putLine_8 ?_
  refine dz_isub (z := T) x.1 d_Model_putLine_9 (by omega) ?_
  refine dz_icmp_ne (tgt := 28) x.1 d_Model_putLine_10 (by decide) (by omega) (by omega) (fun hc10 => ?_) (fun hc10 => ?_)
  · have ht9 : (sp_tp T ((sp_pu T C.length (p0, u0, a0)).1, (sp_pu T C.length (p0, u0, a0)).2.1)) = ((sp_pu T C.length (p0, u0, a0)).1, (sp_pu T C.length (p0, u0, a0)).2.1) := if_neg (by omega)
    exact k28 I (fun a ha => rfl) (fun k a1 a2 => rfl) (by rw [ht9]; exact PI.1.1) (by rw [ht9]; exact PI.1.2.1)
  · refine dz_aload_n x.1 0 d_Model_putLine_13 rfl rfl ?_
    refine dz_dup x.1 d_Model_putLine_14 rfl ?_
    refine dz_geti (z := (sp_pu T C.length (p0, u0, a0)).1) x.1 (ly_Model b) fl_Model_170 d_Model_putLine_15 PI.1.1 ?_
    refine dz_iconst x.1 d_Model_putLine_18 ?_
    refine dz_iadd (z := (sp_pu T C.length (p0, u0, a0)).1 + 1) x.1 d_Model_putLine_19 (by omega) ?_
    refine dz_puti x.1 (ly_Model b) fl_Model_170 fp_Model_21 d_Model_putLine_20 ?_
    refine dz_aload_n x.1 0 d_Model_putLine_23 rfl rfl ?_
    refine dz_iconst x.1 d_Model_putLine_24 ?_
    refine dz_puti x.1 (ly_Model b) fl_Model_167 fp_Model_22 d_Model_putLine_25 ?_
    have ht9 : (sp_tp T ((sp_pu T C.length (p0, u0, a0)).1, (sp_pu T C.length (p0, u0, a0)).2.1)) = ((sp_pu T C.length (p0, u0, a0)).1 + 1, 0) := if_pos (by omega)
    exact k28 _ (fun a ha => by rw [dz_up_n _ _ _ ha, dz_up_n _ _ _ ha]) (fun k a1 a2 => by rw [dz_up_k _ _ _ a2, dz_up_k _ _ _ a1]) (by rw [dz_up_k _ _ _ (by decide), dz_up_s, ht9]) (by rw [dz_up_s, ht9])
