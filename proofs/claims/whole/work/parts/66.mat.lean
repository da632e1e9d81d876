theorem sp_hdg_neg {W : Int} {Bk : Nat → sp_Bk} {q : Int} : ∀ (k j : Nat) (bf : Int), q < bf → sp_hdg W Bk q k j bf = -1 := by
  intro k
  induction k with
  | zero => intro j bf _; rfl
  | succ k ih =>
    intro j bf h
    simp only [sp_hdg]
    split
    · rw [if_neg (by omega)]; exact ih (j + 1) (bf + 1) (by omega)
    · exact ih (j + 1) bf h
theorem sp_bl_pos {W : Int} {y : sp_Bk} : (0 < (sp_bl W y).length) ↔ ¬ sp_bl W y = [] := by
  constructor
  · intro h z; rw [z] at h; simp at h
  · intro h; exact List.length_pos_iff.mpr h
theorem sp_pz_w {W T : Int} {Bk : Nat → sp_Bk} {i : Nat} : sp_pz W T Bk i = (if 0 < (sp_bl W (Bk i)).length then (sp_pp W T Bk i).1 * 32 + (sp_pp W T Bk i).2 else -1) := by
  unfold sp_pz
  by_cases c : sp_bl W (Bk i) = []
  · rw [if_pos c, if_neg (fun z => sp_bl_pos.mp z c)]
  · rw [if_neg c, if_pos (sp_bl_pos.mpr c)]; omega
theorem sp_dv_0 {p : Int} {t : Nat} (h : sp_dv p t = 0) : ∀ d : Nat, t ≤ d → sp_dv p d = 0 := by
  intro d
  induction d with
  | zero => intro hd; rw [show 0 = t by omega]; exact h
  | succ d ih =>
    intro hd
    by_cases e : t = d + 1
    · rw [← e]; exact h
    · simp only [sp_dv]; rw [ih (by omega)]; rfl
theorem sp_num_0 {W p pl : Int} {t : Nat} (h : sp_dv p t = 0) (hd : t < (W - 1 - pl).toNat) : sp_num W p pl = 0 := by
  unfold sp_num
  rw [if_neg (by rw [sp_dv_0 h _ (by omega)]; omega), if_neg]
  rw [if_neg (by omega), sp_dv_0 h _ (by omega)]
  omega
set_option maxRecDepth 100000 in
set_option maxHeartbeats 4000000 in
theorem c_Model_pages (l : Launch) (D : va_G) (Dt : Nat → ClassId) (b sz : Nat) (I : dz_Hp) (W T n : Int) (g : Int → Int) (c : Nat) (S : Nat → sp_Ru) (w : Int) (nb : Nat) (Bk : Nat → sp_Bk) (H : List Int) (MI : sp_MO b I W T n g c S w nb Bk H)  : ly_M l D Dt b sz y_Model_pages b_Model_pages 1 (some .int) 5 [.ref (b + 130)] I (fun v I' => v = some (.int (dz_i (sp_bs W T Bk nb).2.2)) ∧ sp_fr I I' (fun q => b + 130 ≤ q ∧ q < b + 145) ∧ sp_MO b I' W T n g c S w nb Bk H) := by
  refine ly_enter R_Model (by decide) rfl (Nat.le_of_ble_eq_true rfl) (ly_cat _ 0 rfl) (fun κ x => ?_)
  have hN := ly_N x
  obtain ⟨⟨hW, hT⟩, hWT, TI, RI, hw1, BI, HI⟩ := id MI
  have hn9 := TI.2.1.1
  have hc24 := RI.2.1
  have hnb := BI.2.1
  have hHl := HI.2.1
  have hok : ∀ i, i < nb → sp_bok (Bk i) := fun i hi => (BI.2.2 i hi).2.2.2
  have hbs := sp_bs_rng hW hT.1 nb hok
  show ly_V κ b sz I 0 [(0, .ref (b + 130))] []
  refine dz_aload_n x.1 0 d_Model_pages_0 rfl rfl ?_
  refine dz_iconst x.1 d_Model_pages_1 ?_
  refine dz_puti x.1 (ly_Model b) fl_Model_63 fp_Model_0 d_Model_pages_2 ?_
  refine dz_aload_n x.1 0 d_Model_pages_5 rfl rfl ?_
  refine dz_iconst x.1 d_Model_pages_6 ?_
  refine dz_iconst x.1 d_Model_pages_7 ?_
  refine ly_callV (rest := []) x cl_Model_200 (c_Model_layOut l D Dt b sz (dz_up I (b + 130) 0 0) W T n g c S w nb Bk H (MI.thr 0) 0 0 (by omega)) (by decide) (ly_Model b) rfl rfl rfl rfl (Nat.le_of_ble_eq_true rfl) d_Model_pages_8 (fun v J hp8 => ?_)
  obtain ⟨rfl, FJ, hJ23, hJp, hJw⟩ := hp8
  have MJ := FJ.mo (MI.thr 0)
  show ly_V κ b sz J 11 [(0, .ref (b + 130))] []
  refine dz_aload_n x.1 0 d_Model_pages_11 rfl rfl ?_
  refine dz_geti (z := (sp_bs W T Bk nb).2.2) x.1 (ly_Model b) fl_Model_182 d_Model_pages_12 hJ23 ?_
  exact ly_iret x d_Model_pages_15 rfl ⟨rfl, ((sp_fr.rf (P := fun q => b + 130 ≤ q ∧ q < b + 145)).up (show b + 130 ≤ b + 130 ∧ b + 130 < b + 145 by omega)).tr FJ.fr (fun _ h => h), MJ⟩
set_option maxRecDepth 100000 in
set_option maxHeartbeats 4000000 in
theorem c_Model_where (l : Launch) (D : va_G) (Dt : Nat → ClassId) (b sz : Nat) (I : dz_Hp) (W T n : Int) (g : Int → Int) (c : Nat) (S : Nat → sp_Ru) (w : Int) (nb : Nat) (Bk : Nat → sp_Bk) (H : List Int) (MI : sp_MO b I W T n g c S w nb Bk H) (q : Int) (hq : -2147483648 ≤ q ∧ q < 2147483648) : ly_M l D Dt b sz y_Model_where b_Model_where 2 (some .int) 5 [.ref (b + 130), .int (dz_i q)] I (fun v I' => sp_fr I I' (fun q => b + 130 ≤ q ∧ q < b + 145) ∧ sp_MO b I' W T n g c S w nb Bk H ∧ (((0 ≤ q ∧ q < (nb : Int)) ∧ v = some (.int (dz_i (if 0 < (sp_bl W (Bk q.toNat)).length then (sp_pp W T Bk q.toNat).1 * 32 + (sp_pp W T Bk q.toNat).2 else -1))) ∧ I' (b + 130) 0 = 0) ∨ (¬ (0 ≤ q ∧ q < (nb : Int)) ∧ I' (b + 130) 0 = 1 ∧ v = some (.int (dz_i 0))))) := by
  refine ly_enter R_Model (by decide) rfl (Nat.le_of_ble_eq_true rfl) (ly_cat _ 0 rfl) (fun κ x => ?_)
  have hN := ly_N x
  obtain ⟨⟨hW, hT⟩, hWT, TI, RI, hw1, BI, HI⟩ := id MI
  have hn9 := TI.2.1.1
  have hc24 := RI.2.1
  have hnb := BI.2.1
  have hHl := HI.2.1
  have hok : ∀ i, i < nb → sp_bok (Bk i) := fun i hi => (BI.2.2 i hi).2.2.2
  have hbs := sp_bs_rng hW hT.1 nb hok
  show ly_V κ b sz I 0 [(0, .ref (b + 130)), (1, .int (dz_i q))] []
  refine dz_aload_n x.1 0 d_Model_where_0 rfl rfl ?_
  refine dz_aload_n x.1 0 d_Model_where_1 rfl rfl ?_
  refine dz_iload_n x.1 1 d_Model_where_2 rfl rfl ?_
  refine ly_callV (rest := [.ref (b + 130)]) x cl_Model_135 (c_Model_noBlock l D Dt b sz I nb BI.1 hnb q hq) (by decide) (ly_Model b) rfl rfl rfl rfl (Nat.le_of_ble_eq_true rfl) d_Model_where_3 (fun v I' hp3 => ?_)
  obtain ⟨rfl, hp3I⟩ := hp3
  have hp3I := hp3I.symm
  subst hp3I
  show ly_V κ b sz I 6 [(0, .ref (b + 130)), (1, .int (dz_i q))] [.int (dz_i (if ¬ (0 ≤ q ∧ q < (nb : Int)) then 1 else 0)), .ref (b + 130)]
  refine dz_if_eq (tgt := 13) x.1 d_Model_where_6 (by decide) (dz_br _) (fun hc6 => ?_) (fun hc6 => ?_)
  · have hc6 : ¬ (¬ (0 ≤ q ∧ q < (nb : Int))) := dz_bf hc6
    refine dz_iconst x.1 d_Model_where_13 ?_
    refine dz_puti x.1 (ly_Model b) fl_Model_63 fp_Model_0 d_Model_where_14 ?_
    refine dz_aload_n x.1 0 d_Model_where_17 rfl rfl ?_
    refine dz_geti (z := 0) x.1 (ly_Model b) fl_Model_63 d_Model_where_18 (dz_up_s _ _ _ _) ?_
    refine dz_if_eq (tgt := 26) x.1 d_Model_where_21 (by decide) (by omega) (fun hc21 => ?_) (fun hc21 => by exfalso; omega)
    refine dz_aload_n x.1 0 d_Model_where_26 rfl rfl ?_
    refine dz_iconst x.1 d_Model_where_27 ?_
    refine dz_iconst x.1 d_Model_where_28 ?_
    refine ly_callV (rest := []) x cl_Model_200 (c_Model_layOut l D Dt b sz (dz_up I (b + 130) 0 0) W T n g c S w nb Bk H (MI.thr 0) 0 0 (by omega)) (by decide) (ly_Model b) rfl rfl rfl rfl (Nat.le_of_ble_eq_true rfl) d_Model_where_29 (fun v J hp29 => ?_)
    obtain ⟨rfl, FJ, hJ23, hJp, hJw⟩ := hp29
    have MJ := FJ.mo (MI.thr 0)
    show ly_V κ b sz J 32 [(0, .ref (b + 130)), (1, .int (dz_i q))] []
    refine dz_aload_n x.1 0 d_Model_where_32 rfl rfl ?_
    refine dz_getr x.1 (ly_Model b) fl_Model_54 (lr_Model_27 b) d_Model_where_33 ?_
    refine dz_iload_n x.1 1 d_Model_where_36 rfl rfl ?_
    refine dz_iald (w := (sp_pz W T Bk q.toNat)) x.1 (ly_MPlaces b) (by decide) (by omega) d_Model_where_37 (by have h9 := hJp q.toNat (by omega); rw [show ((q.toNat : Nat) : Int) = q by omega] at h9; exact h9) ?_
    exact ly_iret x d_Model_where_38 rfl ⟨((sp_fr.rf (P := fun q => b + 130 ≤ q ∧ q < b + 145)).up (show b + 130 ≤ b + 130 ∧ b + 130 < b + 145 by omega)).tr FJ.fr (fun _ h => h), MJ, Or.inl ⟨by omega, by rw [sp_pz_w], by rw [FJ.2 0 (by decide) (by omega), dz_up_s]⟩⟩
  · have hc6 : ¬ (0 ≤ q ∧ q < (nb : Int)) := dz_bt hc6
    refine dz_iconst x.1 d_Model_where_9 ?_
    refine dz_goto (tgt := 14) x.1 d_Model_where_10 (by decide) ?_
    refine dz_puti x.1 (ly_Model b) fl_Model_63 fp_Model_0 d_Model_where_14 ?_
    refine dz_aload_n x.1 0 d_Model_where_17 rfl rfl ?_
    refine dz_geti (z := 1) x.1 (ly_Model b) fl_Model_63 d_Model_where_18 (dz_up_s _ _ _ _) ?_
    refine dz_if_eq (tgt := 26) x.1 d_Model_where_21 (by decide) (by omega) (fun hc21 => by exfalso; omega) (fun hc21 => ?_)
    refine dz_iconst x.1 d_Model_where_24 ?_
    exact ly_iret x d_Model_where_25 rfl ⟨((sp_fr.rf (P := fun q => b + 130 ≤ q ∧ q < b + 145)).up (show b + 130 ≤ b + 130 ∧ b + 130 < b + 145 by omega)), MI.thr _, Or.inr ⟨hc6, dz_up_s _ _ _ _, rfl⟩⟩
set_option maxRecDepth 100000 in
set_option maxHeartbeats 4000000 in
theorem c_Model_heading (l : Launch) (D : va_G) (Dt : Nat → ClassId) (b sz : Nat) (I : dz_Hp) (W T n : Int) (g : Int → Int) (c : Nat) (S : Nat → sp_Ru) (w : Int) (nb : Nat) (Bk : Nat → sp_Bk) (H : List Int) (MI : sp_MO b I W T n g c S w nb Bk H) (q : Int) (hq : -2147483648 ≤ q ∧ q < 2147483648) : ly_M l D Dt b sz y_Model_heading b_Model_heading 4 (some .int) 5 [.ref (b + 130), .int (dz_i q)] I (fun v I' => v = some (.int (dz_i (sp_hdg W Bk q nb 0 0))) ∧ sp_fr I I' (fun q => b + 130 ≤ q ∧ q < b + 145) ∧ sp_MO b I' W T n g c S w nb Bk H) := by
  refine ly_enter R_Model (by decide) rfl (Nat.le_of_ble_eq_true rfl) (ly_cat _ 0 rfl) (fun κ x => ?_)
  have hN := ly_N x
  obtain ⟨⟨hW, hT⟩, hWT, TI, RI, hw1, BI, HI⟩ := id MI
  have hn9 := TI.2.1.1
  have hc24 := RI.2.1
  have hnb := BI.2.1
  have hHl := HI.2.1
  have hok : ∀ i, i < nb → sp_bok (Bk i) := fun i hi => (BI.2.2 i hi).2.2.2
  have hbs := sp_bs_rng hW hT.1 nb hok
  show ly_V κ b sz I 0 [(0, .ref (b + 130)), (1, .int (dz_i q))] []
  refine dz_aload_n x.1 0 d_Model_heading_0 rfl rfl ?_
  refine dz_iconst x.1 d_Model_heading_1 ?_
  refine dz_puti x.1 (ly_Model b) fl_Model_63 fp_Model_0 d_Model_heading_2 ?_
  refine dz_aload_n x.1 0 d_Model_heading_5 rfl rfl ?_
  refine dz_iconst x.1 d_Model_heading_6 ?_
  refine dz_iconst x.1 d_Model_heading_7 ?_
  refine ly_callV (rest := []) x cl_Model_200 (c_Model_layOut l D Dt b sz (dz_up I (b + 130) 0 0) W T n g c S w nb Bk H (MI.thr 0) 0 0 (by omega)) (by decide) (ly_Model b) rfl rfl rfl rfl (Nat.le_of_ble_eq_true rfl) d_Model_heading_8 (fun v J hp8 => ?_)
  obtain ⟨rfl, FJ, hJ23, hJp, hJw⟩ := hp8
  have MJ := FJ.mo (MI.thr 0)
  show ly_V κ b sz J 11 [(0, .ref (b + 130)), (1, .int (dz_i q))] []
  refine dz_iload_n x.1 1 d_Model_heading_11 rfl rfl ?_
  refine dz_istore_n (ls' := [(0, .ref (b + 130)), (1, .int (dz_i q)), (2, .int (dz_i q))]) x.1 d_Model_heading_12 rfl hN (by decide) rfl ?_
  refine dz_iconst x.1 d_Model_heading_13 ?_
  refine dz_istore_n (ls' := [(0, .ref (b + 130)), (1, .int (dz_i q)), (2, .int (dz_i q)), (3, .int (dz_i 0))]) x.1 d_Model_heading_14 rfl hN (by decide) rfl ?_
  have loop : ∀ (k : Nat) (i : Nat) (lf : Int) (bf : Int), (i + k = nb) → (lf = q - bf ∧ 0 ≤ bf ∧ bf ≤ (i : Int) ∧ (0 ≤ q → 0 ≤ lf)) → (sp_hdg W Bk q k i bf = sp_hdg W Bk q nb 0 0) → ly_V κ b sz J 15 [(0, .ref (b + 130)), (1, .int (dz_i q)), (2, .int (dz_i lf)), (3, .int (dz_i (i : Int)))] [] := by
    intro k
    induction k with
    | zero =>
      intro i lf bf hi hlf hS
      refine dz_iload_n x.1 3 d_Model_heading_15 rfl rfl ?_
      refine dz_aload_n x.1 0 d_Model_heading_16 rfl rfl ?_
      refine dz_geti (z := (nb : Int)) x.1 (ly_Model b) fl_Model_100 d_Model_heading_17 MJ.2.2.2.2.2.1.1 ?_
      refine dz_icmp_ge (tgt := 61) x.1 d_Model_heading_20 (by decide) (by omega) (by omega) (fun hc20 => ?_) (fun hc20 => by exfalso; omega)
      refine dz_iconst x.1 d_Model_heading_61 ?_
      exact ly_iret x d_Model_heading_62 rfl ⟨by rw [← hS]; rfl, ((sp_fr.rf (P := fun q => b + 130 ≤ q ∧ q < b + 145)).up (show b + 130 ≤ b + 130 ∧ b + 130 < b + 145 by omega)).tr FJ.fr (fun _ h => h), MJ⟩
    | succ k ih =>
      intro i lf bf hi hlf hS
      have hi9 : i < nb := by omega
      have hpr := sp_pp_rng hW hT.1 (Bk := Bk) (j := i) (fun q hq => hok q (by omega))
      have hyk1 := (hok i hi9).1
      have hpz : -1 ≤ sp_pz W T Bk i ∧ sp_pz W T Bk i ≤ 200000 := by unfold sp_pz; split <;> omega
      have hst : sp_hdg W Bk q (k + 1) i bf = (if (Bk i).1 = 1 ∧ 0 < (sp_bl W (Bk i)).length then (if bf = q then (i : Int) else sp_hdg W Bk q k (i + 1) (bf + 1)) else sp_hdg W Bk q k (i + 1) bf) := rfl
      refine dz_iload_n x.1 3 d_Model_heading_15 rfl rfl ?_
      refine dz_aload_n x.1 0 d_Model_heading_16 rfl rfl ?_
      refine dz_geti (z := (nb : Int)) x.1 (ly_Model b) fl_Model_100 d_Model_heading_17 MJ.2.2.2.2.2.1.1 ?_
      refine dz_icmp_ge (tgt := 61) x.1 d_Model_heading_20 (by decide) (by omega) (by omega) (fun hc20 => by exfalso; omega) (fun hc20 => ?_)
      refine dz_iload_n x.1 1 d_Model_heading_23 rfl rfl ?_
      refine dz_if_lt (tgt := 61) x.1 d_Model_heading_24 (by decide) (by omega) (fun hc24 => ?_) (fun hc24 => ?_)
      · refine dz_iconst x.1 d_Model_heading_61 ?_
        exact ly_iret x d_Model_heading_62 rfl ⟨by rw [← hS, sp_hdg_neg _ _ _ (by omega)], ((sp_fr.rf (P := fun q => b + 130 ≤ q ∧ q < b + 145)).up (show b + 130 ≤ b + 130 ∧ b + 130 < b + 145 by omega)).tr FJ.fr (fun _ h => h), MJ⟩
      · refine dz_aload_n x.1 0 d_Model_heading_27 rfl rfl ?_
        refine dz_getr x.1 (ly_Model b) fl_Model_33 (lr_Model_13 b) d_Model_heading_28 ?_
        refine dz_iload_n x.1 3 d_Model_heading_31 rfl rfl ?_
        refine dz_iald (w := (Bk i).1) x.1 (ly_MBlockKind b) (by decide) (by omega) d_Model_heading_32 (MJ.2.2.2.2.2.1.2.2 i hi9).1 ?_
        refine dz_iconst x.1 d_Model_heading_33 ?_
        refine dz_icmp_ne (tgt := 55) x.1 d_Model_heading_34 (by decide) (by omega) (by omega) (fun hc34 => ?_) (fun hc34 => ?_)
        · have hem9 : (Bk i).1 = 1 → ¬ 0 ≤ sp_pz W T Bk i → sp_bl W (Bk i) = [] := fun _ hz => by
            by_cases z : sp_bl W (Bk i) = []
            · exact z
            · exfalso; unfold sp_pz at hz; rw [if_neg z] at hz; omega
          refine dz_iinc (z := (i : Int) + 1) (ls' := [(0, .ref (b + 130)), (1, .int (dz_i q)), (2, .int (dz_i lf)), (3, .int (dz_i ((i : Int) + 1)))]) x.1 3 d_Model_heading_55 rfl hN (by decide) (by omega) rfl ?_
          refine dz_goto (tgt := 15) x.1 d_Model_heading_58 (by decide) ?_
          have h9 := ih (i + 1) lf bf (by omega) (by omega) (by rw [← hS, hst, if_neg (by intro z; first | exact hc34 z.1 | exact sp_bl_pos.mp z.2 (hem9 hc34 (by omega)))])
          rw [show ((i + 1 : Nat) : Int) = (i : Int) + 1 by omega] at h9
          exact h9
        · refine dz_aload_n x.1 0 d_Model_heading_37 rfl rfl ?_
          refine dz_getr x.1 (ly_Model b) fl_Model_54 (lr_Model_27 b) d_Model_heading_38 ?_
          refine dz_iload_n x.1 3 d_Model_heading_41 rfl rfl ?_
          refine dz_iald (w := (sp_pz W T Bk i)) x.1 (ly_MPlaces b) (by decide) (by omega) d_Model_heading_42 (hJp i hi9) ?_
          refine dz_if_lt (tgt := 55) x.1 d_Model_heading_43 (by decide) (by omega) (fun hc43 => ?_) (fun hc43 => ?_)
          · have hem9 : (Bk i).1 = 1 → ¬ 0 ≤ sp_pz W T Bk i → sp_bl W (Bk i) = [] := fun _ hz => by
              by_cases z : sp_bl W (Bk i) = []
              · exact z
              · exfalso; unfold sp_pz at hz; rw [if_neg z] at hz; omega
            refine dz_iinc (z := (i : Int) + 1) (ls' := [(0, .ref (b + 130)), (1, .int (dz_i q)), (2, .int (dz_i lf)), (3, .int (dz_i ((i : Int) + 1)))]) x.1 3 d_Model_heading_55 rfl hN (by decide) (by omega) rfl ?_
            refine dz_goto (tgt := 15) x.1 d_Model_heading_58 (by decide) ?_
            have h9 := ih (i + 1) lf bf (by omega) (by omega) (by rw [← hS, hst, if_neg (by intro z; first | exact hc34 z.1 | exact sp_bl_pos.mp z.2 (hem9 hc34 (by omega)))])
            rw [show ((i + 1 : Nat) : Int) = (i : Int) + 1 by omega] at h9
            exact h9
          · have hne : ¬ sp_bl W (Bk i) = [] := fun z => by unfold sp_pz at hc43; rw [if_pos z] at hc43; omega
            refine dz_iload_n x.1 2 d_Model_heading_46 rfl rfl ?_
            refine dz_if_ne (tgt := 52) x.1 d_Model_heading_47 (by decide) (by omega) (fun hc47 => ?_) (fun hc47 => ?_)
            · refine dz_iinc (z := lf - 1) (ls' := [(0, .ref (b + 130)), (1, .int (dz_i q)), (2, .int (dz_i (lf - 1))), (3, .int (dz_i (i : Int)))]) x.1 2 d_Model_heading_52 rfl hN (by decide) (by omega) rfl ?_
              have hem9 : (Bk i).1 = 1 → ¬ 0 ≤ sp_pz W T Bk i → sp_bl W (Bk i) = [] := fun _ hz => by
                by_cases z : sp_bl W (Bk i) = []
                · exact z
                · exfalso; unfold sp_pz at hz; rw [if_neg z] at hz; omega
              refine dz_iinc (z := (i : Int) + 1) (ls' := [(0, .ref (b + 130)), (1, .int (dz_i q)), (2, .int (dz_i (lf - 1))), (3, .int (dz_i ((i : Int) + 1)))]) x.1 3 d_Model_heading_55 rfl hN (by decide) (by omega) rfl ?_
              refine dz_goto (tgt := 15) x.1 d_Model_heading_58 (by decide) ?_
              have h9 := ih (i + 1) (lf - 1) (bf + 1) (by omega) (by omega) (by rw [← hS, hst, if_pos ⟨hc34, sp_bl_pos.mpr hne⟩, if_neg (by omega)])
              rw [show ((i + 1 : Nat) : Int) = (i : Int) + 1 by omega] at h9
              exact h9
            · refine dz_iload_n x.1 3 d_Model_heading_50 rfl rfl ?_
              exact ly_iret x d_Model_heading_51 rfl ⟨by rw [← hS, hst, if_pos ⟨hc34, sp_bl_pos.mpr hne⟩, if_pos (by omega)], ((sp_fr.rf (P := fun q => b + 130 ≤ q ∧ q < b + 145)).up (show b + 130 ≤ b + 130 ∧ b + 130 < b + 145 by omega)).tr FJ.fr (fun _ h => h), MJ⟩
  exact loop nb 0 q 0 (by omega) (by omega) rfl
set_option maxRecDepth 100000 in
set_option maxHeartbeats 4000000 in
theorem c_Model_number (l : Launch) (D : va_G) (Dt : Nat → ClassId) (b sz : Nat) (I : dz_Hp) (W p : Int) (hW : 10 ≤ W ∧ W ≤ 40) (hp : 1 ≤ p ∧ p < 100000) (hw1 : I (b + 130) 1 = W) (hz : ∀ v : Int, 0 ≤ v → v < 40 → I (b + 143) v = 0) : ly_M l D Dt b sz y_Model_number b_Model_number 4 none 4 [.ref (b + 130), .int (dz_i p)] I (fun v I' => v = none ∧ sp_fr I I' (fun q => q = b + 143) ∧ ∀ v : Int, 0 ≤ v → v < W → I' (b + 143) v = sp_num W p v) := by
  refine ly_enter R_Model (by decide) rfl (Nat.le_of_ble_eq_true rfl) (ly_cat _ 0 rfl) (fun κ x => ?_)
  have hN := ly_N x
  have loop : ∀ (k : Nat) (t : Nat) (J : dz_Hp), (t + k = 5) → (sp_dv p t < 10 ^ k) → (sp_fr I J (fun q => q = b + 143)) → (∀ d : Nat, d < t → 0 < sp_dv p d) → (∀ v : Int, 0 ≤ v → v < 40 → v < W - (t : Int) → J (b + 143) v = 0) → (∀ v : Int, W - (t : Int) ≤ v → v < W → J (b + 143) v = sp_num W p v) → ly_V κ b sz J 9 [(0, .ref (b + 130)), (1, .int (dz_i p)), (2, .int (dz_i (W - (t : Int) - 1))), (3, .int (dz_i (sp_dv p t)))] [] := by
    intro k
    induction k with
    | zero =>
      intro t J ht hdv FJ hpos hlo hhi
      have hdr := sp_dv_rng (p := p) (by omega) t
      have hz0 : sp_dv p t = 0 := by simp only [Int.pow_zero] at hdv; omega
      refine dz_iload_n x.1 3 d_Model_number_9 rfl rfl ?_
      refine dz_if_le (tgt := 38) x.1 d_Model_number_10 (by decide) (by omega) (fun hc10 => ?_) (fun hc10 => by exfalso; omega)
      refine dz_aload_n x.1 0 d_Model_number_38 rfl rfl ?_
      refine dz_getr x.1 (ly_Model b) fl_Model_51 (lr_Model_26 b) d_Model_number_39 ?_
      refine dz_iload_n x.1 2 d_Model_number_42 rfl rfl ?_
      refine dz_bipush x.1 d_Model_number_43 (by decide) ?_
      refine dz_iast x.1 (ly_MWanted b) (by decide) (by omega) d_Model_number_45 ?_
      exact ly_vret x d_Model_number_46 ⟨rfl, FJ.up rfl, fun v h1 h2 => by
        by_cases e : v = W - (t : Int) - 1
        · rw [e, dz_up_s]
          unfold sp_num
          rw [show (W - 1 - (W - (t : Int) - 1)).toNat = t by omega, if_neg (by omega), if_pos]
          by_cases t0 : t = 0
          · rw [if_pos t0]; omega
          · rw [if_neg t0]; exact hpos _ (by omega)
        · rw [dz_up_k _ _ _ e]
          by_cases c : v < W - (t : Int)
          · rw [hlo v h1 (by omega) c]
            exact (sp_num_0 (t := t) (by omega) (by omega)).symm
          · exact hhi v (by omega) h2⟩
    | succ k ih =>
      intro t J ht hdv FJ hpos hlo hhi
      have hdr := sp_dv_rng (p := p) (by omega) t
      refine dz_iload_n x.1 3 d_Model_number_9 rfl rfl ?_
      refine dz_if_le (tgt := 38) x.1 d_Model_number_10 (by decide) (by omega) (fun hc10 => ?_) (fun hc10 => ?_)
      · refine dz_aload_n x.1 0 d_Model_number_38 rfl rfl ?_
        refine dz_getr x.1 (ly_Model b) fl_Model_51 (lr_Model_26 b) d_Model_number_39 ?_
        refine dz_iload_n x.1 2 d_Model_number_42 rfl rfl ?_
        refine dz_bipush x.1 d_Model_number_43 (by decide) ?_
        refine dz_iast x.1 (ly_MWanted b) (by decide) (by omega) d_Model_number_45 ?_
        exact ly_vret x d_Model_number_46 ⟨rfl, FJ.up rfl, fun v h1 h2 => by
          by_cases e : v = W - (t : Int) - 1
          · rw [e, dz_up_s]
            unfold sp_num
            rw [show (W - 1 - (W - (t : Int) - 1)).toNat = t by omega, if_neg (by omega), if_pos]
            by_cases t0 : t = 0
            · rw [if_pos t0]; omega
            · rw [if_neg t0]; exact hpos _ (by omega)
          · rw [dz_up_k _ _ _ e]
            by_cases c : v < W - (t : Int)
            · rw [hlo v h1 (by omega) c]
              exact (sp_num_0 (t := t) (by omega) (by omega)).symm
            · exact hhi v (by omega) h2⟩
      · refine dz_aload_n x.1 0 d_Model_number_13 rfl rfl ?_
        refine dz_getr x.1 (ly_Model b) fl_Model_51 (lr_Model_26 b) d_Model_number_14 ?_
        refine dz_iload_n x.1 2 d_Model_number_17 rfl rfl ?_
        refine dz_aload_n x.1 0 d_Model_number_18 rfl rfl ?_
        refine dz_iload_n x.1 3 d_Model_number_19 rfl rfl ?_
        refine dz_bipush x.1 d_Model_number_20 (by decide) ?_
        refine dz_irem x.1 d_Model_number_22 (by omega) (by omega) ?_
        refine ly_callV (rest := [.int (dz_i (W - (t : Int) - 1)), .ref (b + 143)]) x cl_Model_128 (c_Model_digitCell l D Dt b sz J (sp_dv p t % 10) (by omega)) (by decide) (ly_Model b) rfl rfl rfl rfl (Nat.le_of_ble_eq_true rfl) d_Model_number_23 (fun v I' hp23 => ?_)
        obtain ⟨rfl, hp23I⟩ := hp23
        have hp23I := hp23I.symm
        subst hp23I
        show ly_V κ b sz J 26 [(0, .ref (b + 130)), (1, .int (dz_i p)), (2, .int (dz_i (W - (t : Int) - 1))), (3, .int (dz_i (sp_dv p t)))] [.int (dz_i (sp_cell (sp_dv p t % 10 + 48))), .int (dz_i (W - (t : Int) - 1)), .ref (b + 143)]
        refine dz_iast x.1 (ly_MWanted b) (by decide) (by omega) d_Model_number_26 ?_
        refine dz_iload_n x.1 3 d_Model_number_27 rfl rfl ?_
        refine dz_bipush x.1 d_Model_number_28 (by decide) ?_
        refine dz_idiv x.1 d_Model_number_30 (by omega) (by omega) ?_
        refine dz_istore_n (ls' := [(0, .ref (b + 130)), (1, .int (dz_i p)), (2, .int (dz_i (W - (t : Int) - 1))), (3, .int (dz_i ((sp_dv p t) / 10)))]) x.1 d_Model_number_31 rfl hN (by decide) rfl ?_
        refine dz_iinc (z := W - (t : Int) - 2) (ls' := [(0, .ref (b + 130)), (1, .int (dz_i p)), (2, .int (dz_i (W - (t : Int) - 2))), (3, .int (dz_i ((sp_dv p t) / 10)))]) x.1 2 d_Model_number_32 rfl hN (by decide) (by omega) rfl ?_
        refine dz_goto (tgt := 9) x.1 d_Model_number_35 (by decide) ?_
        have hn9 : sp_num W p (W - (t : Int) - 1) = sp_cell (sp_dv p t % 10 + 48) := by unfold sp_num; rw [show (W - 1 - (W - (t : Int) - 1)).toNat = t by omega, if_pos (by omega)]
        have h9 := ih (t + 1) (dz_up J (b + 143) (W - (t : Int) - 1) (sp_cell (sp_dv p t % 10 + 48))) (by omega) (by rw [Int.pow_succ] at hdv; show sp_dv p t / 10 < _; omega) (FJ.up rfl) (fun d hd => by
          by_cases e : d = t
          · rw [e]; omega
          · exact hpos d (by omega)) (fun v h1 h2 h3 => by rw [dz_up_k _ _ _ (by omega)]; exact hlo v h1 h2 (by omega)) (fun v h1 h2 => by
          by_cases e : v = W - (t : Int) - 1
          · rw [e, dz_up_s, hn9]
          · rw [dz_up_k _ _ _ e]; exact hhi v (by omega) h2)
        rw [show W - ((t + 1 : Nat) : Int) - 1 = W - (t : Int) - 2 by omega] at h9
        exact h9
  show ly_V κ b sz I 0 [(0, .ref (b + 130)), (1, .int (dz_i p))] []
  refine dz_aload_n x.1 0 d_Model_number_0 rfl rfl ?_
  refine dz_geti (z := W) x.1 (ly_Model b) fl_Model_57 d_Model_number_1 hw1 ?_
  refine dz_iconst x.1 d_Model_number_4 ?_
  refine dz_isub (z := W - 1) x.1 d_Model_number_5 (by omega) ?_
  refine dz_istore_n (ls' := [(0, .ref (b + 130)), (1, .int (dz_i p)), (2, .int (dz_i (W - 1)))]) x.1 d_Model_number_6 rfl hN (by decide) rfl ?_
  refine dz_iload_n x.1 1 d_Model_number_7 rfl rfl ?_
  refine dz_istore_n (ls' := [(0, .ref (b + 130)), (1, .int (dz_i p)), (2, .int (dz_i (W - 1))), (3, .int (dz_i p))]) x.1 d_Model_number_8 rfl hN (by decide) rfl ?_
  have h9 := loop 5 0 I (by omega) (by simp only [sp_dv]; omega) sp_fr.rf (fun d hd => by omega) (fun v h1 h2 _ => hz v h1 h2) (fun v h1 h2 => by omega)
  rw [show W - ((0 : Nat) : Int) - 1 = W - 1 by omega] at h9
  exact h9
set_option maxRecDepth 100000 in
set_option maxHeartbeats 4000000 in
theorem c_Model_at (l : Launch) (D : va_G) (Dt : Nat → ClassId) (b sz : Nat) (I : dz_Hp) (W T n : Int) (g : Int → Int) (c : Nat) (S : Nat → sp_Ru) (w : Int) (nb : Nat) (Bk : Nat → sp_Bk) (H : List Int) (MI : sp_MO b I W T n g c S w nb Bk H) (p : Int) (hp : -2147483648 ≤ p ∧ p < 2147483648) (l9 : Int) (hl9 : -2147483648 ≤ l9 ∧ l9 < 2147483648) (pl : Int) (hpl : -2147483648 ≤ pl ∧ pl < 2147483648) : ly_M l D Dt b sz y_Model_at b_Model_at 4 (some .int) 5 [.ref (b + 130), .int (dz_i p), .int (dz_i l9), .int (dz_i pl)] I (fun v I' => sp_fr I I' (fun q => b + 130 ≤ q ∧ q < b + 145) ∧ sp_MO b I' W T n g c S w nb Bk H ∧ (((1 ≤ p ∧ p ≤ (sp_bs W T Bk nb).2.2 ∧ 0 ≤ l9 ∧ l9 ≤ T ∧ 0 ≤ pl ∧ pl < W) ∧ v = some (.int (dz_i (if l9 = T then sp_num W p pl else sp_atx W T Bk nb p l9 pl))) ∧ I' (b + 130) 0 = 0) ∨ (¬ (1 ≤ p ∧ p ≤ (sp_bs W T Bk nb).2.2 ∧ 0 ≤ l9 ∧ l9 ≤ T ∧ 0 ≤ pl ∧ pl < W) ∧ I' (b + 130) 0 = 1 ∧ v = some (.int (dz_i 0))))) := by
  refine ly_enter R_Model (by decide) rfl (Nat.le_of_ble_eq_true rfl) (ly_cat _ 0 rfl) (fun κ x => ?_)
  have hN := ly_N x
  obtain ⟨⟨hW, hT⟩, hWT, TI, RI, hw1, BI, HI⟩ := id MI
  have hn9 := TI.2.1.1
  have hc24 := RI.2.1
  have hnb := BI.2.1
  have hHl := HI.2.1
  have hok : ∀ i, i < nb → sp_bok (Bk i) := fun i hi => (BI.2.2 i hi).2.2.2
  have hbs := sp_bs_rng hW hT.1 nb hok
  show ly_V κ b sz I 0 [(0, .ref (b + 130)), (1, .int (dz_i p)), (2, .int (dz_i l9)), (3, .int (dz_i pl))] []
  refine dz_aload_n x.1 0 d_Model_at_0 rfl rfl ?_
  refine dz_iload_n x.1 1 d_Model_at_1 rfl rfl ?_
  refine dz_iload_n x.1 2 d_Model_at_2 rfl rfl ?_
  refine ly_callV (rest := []) x cl_Model_200 (c_Model_layOut l D Dt b sz I W T n g c S w nb Bk H MI p l9 ⟨hp, hl9⟩) (by decide) (ly_Model b) rfl rfl rfl rfl (Nat.le_of_ble_eq_true rfl) d_Model_at_3 (fun v J hp3 => ?_)
  obtain ⟨rfl, FJ, hJ23, hJp, hJw⟩ := hp3
  have MJ := FJ.mo MI
  show ly_V κ b sz J 6 [(0, .ref (b + 130)), (1, .int (dz_i p)), (2, .int (dz_i l9)), (3, .int (dz_i pl))] []
  refine dz_aload_n x.1 0 d_Model_at_6 rfl rfl ?_
  refine dz_iload_n x.1 1 d_Model_at_7 rfl rfl ?_
  refine dz_iconst x.1 d_Model_at_8 ?_
  refine dz_icmp_lt (tgt := 44) x.1 d_Model_at_9 (by decide) (by omega) (by omega) (fun hc9 => ?_) (fun hc9 => ?_)
  · refine dz_iconst x.1 d_Model_at_44 ?_
    refine dz_goto (tgt := 49) x.1 d_Model_at_45 (by decide) ?_
    refine dz_puti x.1 (ly_Model b) fl_Model_63 fp_Model_0 d_Model_at_49 ?_
    refine dz_aload_n x.1 0 d_Model_at_52 rfl rfl ?_
    refine dz_geti (z := 1) x.1 (ly_Model b) fl_Model_63 d_Model_at_53 (dz_up_s _ _ _ _) ?_
    refine dz_if_eq (tgt := 61) x.1 d_Model_at_56 (by decide) (by omega) (fun hc56 => by exfalso; omega) (fun hc56 => ?_)
    refine dz_iconst x.1 d_Model_at_59 ?_
    exact ly_iret x d_Model_at_60 rfl ⟨FJ.fr.up (show b + 130 ≤ b + 130 ∧ b + 130 < b + 145 by omega), MJ.thr 1, Or.inr ⟨by omega, dz_up_s _ _ _ _, rfl⟩⟩
  · refine dz_iload_n x.1 1 d_Model_at_12 rfl rfl ?_
    refine dz_aload_n x.1 0 d_Model_at_13 rfl rfl ?_
    refine dz_geti (z := (sp_bs W T Bk nb).2.2) x.1 (ly_Model b) fl_Model_182 d_Model_at_14 hJ23 ?_
    refine dz_icmp_gt (tgt := 44) x.1 d_Model_at_17 (by decide) (by omega) (by omega) (fun hc17 => ?_) (fun hc17 => ?_)
    · refine dz_iconst x.1 d_Model_at_44 ?_
      refine dz_goto (tgt := 49) x.1 d_Model_at_45 (by decide) ?_
      refine dz_puti x.1 (ly_Model b) fl_Model_63 fp_Model_0 d_Model_at_49 ?_
      refine dz_aload_n x.1 0 d_Model_at_52 rfl rfl ?_
      refine dz_geti (z := 1) x.1 (ly_Model b) fl_Model_63 d_Model_at_53 (dz_up_s _ _ _ _) ?_
      refine dz_if_eq (tgt := 61) x.1 d_Model_at_56 (by decide) (by omega) (fun hc56 => by exfalso; omega) (fun hc56 => ?_)
      refine dz_iconst x.1 d_Model_at_59 ?_
      exact ly_iret x d_Model_at_60 rfl ⟨FJ.fr.up (show b + 130 ≤ b + 130 ∧ b + 130 < b + 145 by omega), MJ.thr 1, Or.inr ⟨by omega, dz_up_s _ _ _ _, rfl⟩⟩
    · refine dz_iload_n x.1 2 d_Model_at_20 rfl rfl ?_
      refine dz_if_lt (tgt := 44) x.1 d_Model_at_21 (by decide) (by omega) (fun hc21 => ?_) (fun hc21 => ?_)
      · refine dz_iconst x.1 d_Model_at_44 ?_
        refine dz_goto (tgt := 49) x.1 d_Model_at_45 (by decide) ?_
        refine dz_puti x.1 (ly_Model b) fl_Model_63 fp_Model_0 d_Model_at_49 ?_
        refine dz_aload_n x.1 0 d_Model_at_52 rfl rfl ?_
        refine dz_geti (z := 1) x.1 (ly_Model b) fl_Model_63 d_Model_at_53 (dz_up_s _ _ _ _) ?_
        refine dz_if_eq (tgt := 61) x.1 d_Model_at_56 (by decide) (by omega) (fun hc56 => by exfalso; omega) (fun hc56 => ?_)
        refine dz_iconst x.1 d_Model_at_59 ?_
        exact ly_iret x d_Model_at_60 rfl ⟨FJ.fr.up (show b + 130 ≤ b + 130 ∧ b + 130 < b + 145 by omega), MJ.thr 1, Or.inr ⟨by omega, dz_up_s _ _ _ _, rfl⟩⟩
      · refine dz_iload_n x.1 2 d_Model_at_24 rfl rfl ?_
        refine dz_aload_n x.1 0 d_Model_at_25 rfl rfl ?_
        refine dz_geti (z := T + 1) x.1 (ly_Model b) fl_Model_60 d_Model_at_26 MJ.2.1.2 ?_
        refine dz_icmp_ge (tgt := 44) x.1 d_Model_at_29 (by decide) (by omega) (by omega) (fun hc29 => ?_) (fun hc29 => ?_)
        · refine dz_iconst x.1 d_Model_at_44 ?_
          refine dz_goto (tgt := 49) x.1 d_Model_at_45 (by decide) ?_
          refine dz_puti x.1 (ly_Model b) fl_Model_63 fp_Model_0 d_Model_at_49 ?_
          refine dz_aload_n x.1 0 d_Model_at_52 rfl rfl ?_
          refine dz_geti (z := 1) x.1 (ly_Model b) fl_Model_63 d_Model_at_53 (dz_up_s _ _ _ _) ?_
          refine dz_if_eq (tgt := 61) x.1 d_Model_at_56 (by decide) (by omega) (fun hc56 => by exfalso; omega) (fun hc56 => ?_)
          refine dz_iconst x.1 d_Model_at_59 ?_
          exact ly_iret x d_Model_at_60 rfl ⟨FJ.fr.up (show b + 130 ≤ b + 130 ∧ b + 130 < b + 145 by omega), MJ.thr 1, Or.inr ⟨by omega, dz_up_s _ _ _ _, rfl⟩⟩
        · refine dz_iload_n x.1 3 d_Model_at_32 rfl rfl ?_
          refine dz_if_lt (tgt := 44) x.1 d_Model_at_33 (by decide) (by omega) (fun hc33 => ?_) (fun hc33 => ?_)
          · refine dz_iconst x.1 d_Model_at_44 ?_
            refine dz_goto (tgt := 49) x.1 d_Model_at_45 (by decide) ?_
            refine dz_puti x.1 (ly_Model b) fl_Model_63 fp_Model_0 d_Model_at_49 ?_
            refine dz_aload_n x.1 0 d_Model_at_52 rfl rfl ?_
            refine dz_geti (z := 1) x.1 (ly_Model b) fl_Model_63 d_Model_at_53 (dz_up_s _ _ _ _) ?_
            refine dz_if_eq (tgt := 61) x.1 d_Model_at_56 (by decide) (by omega) (fun hc56 => by exfalso; omega) (fun hc56 => ?_)
            refine dz_iconst x.1 d_Model_at_59 ?_
            exact ly_iret x d_Model_at_60 rfl ⟨FJ.fr.up (show b + 130 ≤ b + 130 ∧ b + 130 < b + 145 by omega), MJ.thr 1, Or.inr ⟨by omega, dz_up_s _ _ _ _, rfl⟩⟩
          · refine dz_iload_n x.1 3 d_Model_at_36 rfl rfl ?_
            refine dz_aload_n x.1 0 d_Model_at_37 rfl rfl ?_
            refine dz_geti (z := W) x.1 (ly_Model b) fl_Model_57 d_Model_at_38 MJ.2.1.1 ?_
            refine dz_icmp_lt (tgt := 48) x.1 d_Model_at_41 (by decide) (by omega) (by omega) (fun hc41 => ?_) (fun hc41 => ?_)
            · refine dz_iconst x.1 d_Model_at_48 ?_
              refine dz_puti x.1 (ly_Model b) fl_Model_63 fp_Model_0 d_Model_at_49 ?_
              refine dz_aload_n x.1 0 d_Model_at_52 rfl rfl ?_
              refine dz_geti (z := 0) x.1 (ly_Model b) fl_Model_63 d_Model_at_53 (dz_up_s _ _ _ _) ?_
              refine dz_if_eq (tgt := 61) x.1 d_Model_at_56 (by decide) (by omega) (fun hc56 => ?_) (fun hc56 => by exfalso; omega)
              refine dz_iload_n x.1 2 d_Model_at_61 rfl rfl ?_
              refine dz_aload_n x.1 0 d_Model_at_62 rfl rfl ?_
              refine dz_geti (z := T + 1) x.1 (ly_Model b) fl_Model_60 d_Model_at_63 (by rw [dz_up_k _ _ _ (by omega)]; exact MJ.2.1.2) ?_
              refine dz_iconst x.1 d_Model_at_66 ?_
              refine dz_isub (z := T) x.1 d_Model_at_67 (by omega) ?_
              refine dz_icmp_ne (tgt := 76) x.1 d_Model_at_68 (by decide) (by omega) (by omega) (fun hc68 => ?_) (fun hc68 => ?_)
              · refine dz_aload_n x.1 0 d_Model_at_76 rfl rfl ?_
                refine dz_getr x.1 (ly_Model b) fl_Model_51 (lr_Model_26 b) d_Model_at_77 ?_
                refine dz_iload_n x.1 3 d_Model_at_80 rfl rfl ?_
                refine dz_iald (w := (sp_wn W T p l9 Bk nb pl)) x.1 (ly_MWanted b) (by decide) (by omega) d_Model_at_81 (by rw [dz_up_n _ _ _ (by omega)]; exact (hJw pl (by omega) (by omega))) ?_
                exact ly_iret x d_Model_at_82 rfl ⟨FJ.fr.up (show b + 130 ≤ b + 130 ∧ b + 130 < b + 145 by omega), MJ.thr 0, Or.inl ⟨by omega, by rw [if_neg (by omega), sp_wn_at hW hT.1 hok (by omega)], dz_up_s _ _ _ _⟩⟩
              · refine dz_aload_n x.1 0 d_Model_at_71 rfl rfl ?_
                refine dz_iload_n x.1 1 d_Model_at_72 rfl rfl ?_
                refine ly_callV (rest := []) x cl_Model_203 (c_Model_number l D Dt b sz (dz_up J (b + 130) 0 0) W p hW (by omega) (by rw [dz_up_k _ _ _ (by decide)]; exact MJ.2.1.1) (fun v h1 h2 => by rw [dz_up_n _ _ _ (by omega), hJw v h1 h2]; exact sp_wn_out (by omega) _ _)) (by decide) (ly_Model b) rfl rfl rfl rfl (Nat.le_of_ble_eq_true rfl) d_Model_at_73 (fun v J2 hp73 => ?_)
                obtain ⟨rfl, F2, h2n⟩ := hp73
                show ly_V κ b sz J2 76 [(0, .ref (b + 130)), (1, .int (dz_i p)), (2, .int (dz_i l9)), (3, .int (dz_i pl))] []
                refine dz_aload_n x.1 0 d_Model_at_76 rfl rfl ?_
                refine dz_getr x.1 (ly_Model b) fl_Model_51 (lr_Model_26 b) d_Model_at_77 ?_
                refine dz_iload_n x.1 3 d_Model_at_80 rfl rfl ?_
                refine dz_iald (w := (sp_num W p pl)) x.1 (ly_MWanted b) (by decide) (by omega) d_Model_at_81 (h2n pl (by omega) (by omega)) ?_
                exact ly_iret x d_Model_at_82 rfl ⟨((FJ.fr.up (show b + 130 ≤ b + 130 ∧ b + 130 < b + 145 by omega)).tr F2 (fun q h => by omega)), (MJ.thr 0).scr (fun k hk => by rw [F2 _ (by omega)]) (fun q h1 h2 => F2 q (by omega)), Or.inl ⟨by omega, by rw [if_pos (by omega)], by rw [F2 _ (by omega), dz_up_s]⟩⟩
            · refine dz_iconst x.1 d_Model_at_44 ?_
              refine dz_goto (tgt := 49) x.1 d_Model_at_45 (by decide) ?_
              refine dz_puti x.1 (ly_Model b) fl_Model_63 fp_Model_0 d_Model_at_49 ?_
              refine dz_aload_n x.1 0 d_Model_at_52 rfl rfl ?_
              refine dz_geti (z := 1) x.1 (ly_Model b) fl_Model_63 d_Model_at_53 (dz_up_s _ _ _ _) ?_
              refine dz_if_eq (tgt := 61) x.1 d_Model_at_56 (by decide) (by omega) (fun hc56 => by exfalso; omega) (fun hc56 => ?_)
              refine dz_iconst x.1 d_Model_at_59 ?_
              exact ly_iret x d_Model_at_60 rfl ⟨FJ.fr.up (show b + 130 ≤ b + 130 ∧ b + 130 < b + 145 by omega), MJ.thr 1, Or.inr ⟨by omega, dz_up_s _ _ _ _, rfl⟩⟩
