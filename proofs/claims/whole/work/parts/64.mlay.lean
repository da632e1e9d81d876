def sp_PQ (put : Bool) (b : Nat) (I0 J : dz_Hp) (W T P L : Int) (j : Nat) (k : Int) (y0 : Int × Int × Int) (W0 : Int → Int) (C : List (List Int)) : Prop := (put = true → sp_PL b J W T P L j k y0 W0 C) ∧ (put = false → (∀ q : Int, q ≠ 19 → J (b + 130) q = I0 (b + 130) q) ∧ J (b + 143) = I0 (b + 143) ∧ J (b + 144) = I0 (b + 144))
theorem sp_PL.fr {b : Nat} {J K : dz_Hp} {W T P L : Int} {j : Nat} {k : Int} {y0 : Int × Int × Int} {W0 : Int → Int} {C : List (List Int)} (h : sp_PL b J W T P L j k y0 W0 C) (h1 : ∀ q : Int, q ≠ 19 → K (b + 130) q = J (b + 130) q) (h2 : K (b + 143) = J (b + 143)) (h3 : K (b + 144) = J (b + 144)) : sp_PL b K W T P L j k y0 W0 C := by
  unfold sp_PL; rw [h1 21 (by decide), h1 22 (by decide), h1 23 (by decide), h1 24 (by decide), h1 25 (by decide), h2, h3]; exact h
theorem sp_PQ.fr {put : Bool} {b : Nat} {I0 J K : dz_Hp} {W T P L : Int} {j : Nat} {k : Int} {y0 : Int × Int × Int} {W0 : Int → Int} {C : List (List Int)} (h : sp_PQ put b I0 J W T P L j k y0 W0 C) (h1 : ∀ q : Int, q ≠ 19 → K (b + 130) q = J (b + 130) q) (h2 : K (b + 143) = J (b + 143)) (h3 : K (b + 144) = J (b + 144)) : sp_PQ put b I0 K W T P L j k y0 W0 C :=
  ⟨fun e => (h.1 e).fr h1 h2 h3, fun e => ⟨fun q hq => (h1 q hq).trans ((h.2 e).1 q hq), h2.trans (h.2 e).2.1, h3.trans (h.2 e).2.2⟩⟩
theorem sp_fl.len {b j : Nat} {I J : dz_Hp} (h : sp_fl b j I J) (v : Int) : sp_fl b j I (dz_up J (b + 130) 19 v) := ⟨h.1.up (Or.inl rfl), fun k a1 a2 a3 a4 => by rw [dz_up_k _ _ _ a1]; exact h.2.1 k a1 a2 a3 a4, fun i hi => by rw [dz_up_n _ _ _ (by omega)]; exact h.2.2 i hi⟩
theorem sp_fl.row {b j : Nat} {I J : dz_Hp} (h : sp_fl b j I J) (i v : Int) : sp_fl b j I (dz_up J (b + 142) i v) := ⟨h.1.up (Or.inr (Or.inl rfl)), fun k a1 a2 a3 a4 => by rw [dz_up_n _ _ _ (by omega)]; exact h.2.1 k a1 a2 a3 a4, fun i hi => by rw [dz_up_n _ _ _ (by omega)]; exact h.2.2 i hi⟩
theorem sp_PQ.len {put : Bool} {b : Nat} {I0 J : dz_Hp} {W T P L : Int} {j : Nat} {k : Int} {y0 : Int × Int × Int} {W0 : Int → Int} {C : List (List Int)} (h : sp_PQ put b I0 J W T P L j k y0 W0 C) (v : Int) : sp_PQ put b I0 (dz_up J (b + 130) 19 v) W T P L j k y0 W0 C := h.fr (fun q hq => dz_up_k _ _ _ hq) (dz_up_n _ _ _ (by omega)) (dz_up_n _ _ _ (by omega))
theorem sp_PQ.row {put : Bool} {b : Nat} {I0 J : dz_Hp} {W T P L : Int} {j : Nat} {k : Int} {y0 : Int × Int × Int} {W0 : Int → Int} {C : List (List Int)} (h : sp_PQ put b I0 J W T P L j k y0 W0 C) (i v : Int) : sp_PQ put b I0 (dz_up J (b + 142) i v) W T P L j k y0 W0 C := h.fr (fun q hq => by rw [dz_up_n _ _ _ (by omega)]) (dz_up_n _ _ _ (by omega)) (dz_up_n _ _ _ (by omega))
theorem sp_rw.put {b : Nat} {J : dz_Hp} {r : List Int} (h : sp_rw b J r) (hl : r.length < 40) (v : Int) : sp_rw b (dz_up (dz_up J (b + 142) (r.length : Int) v) (b + 130) 19 ((r.length : Int) + 1)) (r ++ [v]) := by
  obtain ⟨h1, h2, h3⟩ := h
  refine ⟨by rw [dz_up_s]; simp, by simp; omega, fun i e he => ?_⟩
  rw [dz_up_n _ _ _ (by omega)]
  by_cases c : i < r.length
  · rw [List.getElem?_append_left c] at he
    rw [dz_up_k _ _ _ (by omega)]; exact h3 i e he
  · rw [List.getElem?_append_right (by omega)] at he
    have hj : i - r.length = 0 := by
      by_cases c2 : i - r.length = 0
      · exact c2
      · rw [List.getElem?_eq_none (by simp; omega)] at he; cases he
    rw [hj] at he
    have he : v = e := by simpa using he
    rw [← he, show (i : Int) = (r.length : Int) by omega, dz_up_s]
theorem sp_rw_0 {b : Nat} {J : dz_Hp} (h : J (b + 130) 19 = 0) : sp_rw b J [] := ⟨h, by simp, fun i e he => by simp at he⟩
theorem sp_MC.fl {b j : Nat} {I J : dz_Hp} {B m : Int} {h : Int → Int} (H : sp_MC b I B m h) (hf : sp_fl b j I J) : sp_MC b J B m h := by unfold sp_MC; rw [hf.at (by omega) (by omega)]; exact H
section sp_fd_rows
variable {W k : Int} {h : Int → Int} {a : Nat} {C : List (List Int)} {r : List Int}
theorem sp_fd_0 (h0 : h (a : Int) = 0) : sp_fd W k h (a + 1) = sp_fd W k h a := by simp only [sp_fd]; unfold sp_st; rw [if_pos h0]
theorem sp_fd_fit (s : sp_fd W k h a = (C, r)) (h1 : ¬ h (a : Int) = 0) (h0 : h ((a : Int) - 1) = 0) (hr : ¬ r = []) (hf : (r.length : Int) + 1 + (sp_ep h (a : Int) - (a : Int)) ≤ W - sp_ind k (C.length : Int)) : sp_fd W k h (a + 1) = (C, (r ++ [0]) ++ [h (a : Int)]) := by
  simp only [sp_fd]; rw [s]; unfold sp_st; rw [if_neg h1, if_pos h0, if_pos ⟨hr, hf⟩]; simp
theorem sp_fd_new (s : sp_fd W k h a = (C, r)) (h1 : ¬ h (a : Int) = 0) (h0 : h ((a : Int) - 1) = 0) (hf : ¬ (¬ r = [] ∧ (r.length : Int) + 1 + (sp_ep h (a : Int) - (a : Int)) ≤ W - sp_ind k (C.length : Int))) : sp_fd W k h (a + 1) = (sp_nl (C, r), [h (a : Int)]) := by
  simp only [sp_fd]; rw [s]; unfold sp_st; rw [if_neg h1, if_pos h0]; exact if_neg hf
theorem sp_fd_in (s : sp_fd W k h a = (C, r)) (h1 : ¬ h (a : Int) = 0) (h0 : ¬ h ((a : Int) - 1) = 0) (hf : (r.length : Int) < W - sp_ind k (C.length : Int)) : sp_fd W k h (a + 1) = (C, r ++ [h (a : Int)]) := by
  simp only [sp_fd]; rw [s]; unfold sp_st; rw [if_neg h1, if_neg h0]; exact if_pos hf
theorem sp_fd_cut (s : sp_fd W k h a = (C, r)) (h1 : ¬ h (a : Int) = 0) (h0 : ¬ h ((a : Int) - 1) = 0) (hf : ¬ (r.length : Int) < W - sp_ind k (C.length : Int)) : sp_fd W k h (a + 1) = (C ++ [r], [h (a : Int)]) := by
  simp only [sp_fd]; rw [s]; unfold sp_st; rw [if_neg h1, if_neg h0]; exact if_neg hf
theorem sp_fd_b (hW : 10 ≤ W) (h0 : h (-1) = 0) (s : sp_fd W k h a = (C, r)) : C.length ≤ a ∧ (r.length : Int) ≤ W - sp_ind k (C.length : Int) ∧ (r = [] → C = []) ∧ (¬ r = [] → 1 ≤ r.length) := by
  obtain ⟨i1, i2, i3, i4, i5, i6, i7⟩ := sp_fd_inv (k := k) hW h h0 a
  rw [s] at i1 i3 i4 i6
  have := sp_ne_len C i3
  unfold sp_tot at i1
  refine ⟨by simp only at i1; omega, i6, i4, fun hr => ?_⟩
  cases r with
  | nil => exact absurd rfl hr
  | cons a t => simp
end sp_fd_rows
set_option maxRecDepth 100000 in
set_option maxHeartbeats 4000000 in
theorem c_Model_closeLine (l : Launch) (D : va_G) (Dt : Nat → ClassId) (b sz : Nat) (I : dz_Hp) (W T P L : Int) (j : Nat) (k : Int) (LI : sp_LC b I W T j k) (hPL : (-2147483648 ≤ P ∧ P < 2147483648) ∧ -2147483648 ≤ L ∧ L < 2147483648) (y0 : Int × Int × Int) (hy : (0 ≤ y0.2.1 ∧ y0.2.1 ≤ T) ∧ (0 ≤ y0.1 ∧ y0.1 ≤ 5000) ∧ y0.2.2 ≤ y0.1 ∧ 0 ≤ y0.2.2) (W0 : Int → Int) (hW0 : 0 ≤ sp_dd T P L (y0.1, y0.2.1) → ∀ v : Int, W0 v = 0) (C : List (List Int)) (hC : C.length ≤ 210) (put : Bool) (I0 : dz_Hp) (QI : sp_PQ put b I0 I W T P L j k y0 W0 (C)) (r : List Int) (RI : sp_rw b I r) (hr : 1 ≤ r.length ∧ (r.length : Int) ≤ W - sp_ind k (C.length : Int)) : ly_M l D Dt b sz y_Model_closeLine b_Model_closeLine 4 none 2 [.ref (b + 130), .int (dz_i (j : Int)), .int (dz_i (C.length : Int)), .int (dz_i (if put = true then 1 else 0))] I (fun v I' => v = none ∧ sp_fl b j I I' ∧ sp_PQ put b I0 I' W T P L j k y0 W0 (C ++ [r]) ∧ I' (b + 130) 19 = 0) := by
  refine ly_enter R_Model (by decide) rfl (Nat.le_of_ble_eq_true rfl) (ly_cat _ 0 rfl) (fun κ x => ?_)
  have hN := ly_N x
  have hj := LI.2.2.2.2.2
  have hk := LI.2.2.2.2.1
  show ly_V κ b sz I 0 [(0, .ref (b + 130)), (1, .int (dz_i (j : Int))), (2, .int (dz_i (C.length : Int))), (3, .int (dz_i (if put = true then 1 else 0)))] []
  refine dz_iload_n x.1 3 d_Model_closeLine_0 rfl rfl ?_
  refine dz_if_eq (tgt := 20) x.1 d_Model_closeLine_1 (by decide) (dz_br _) (fun hc1 => ?_) (fun hc1 => ?_)
  · have hc1 : ¬ (put = true) := dz_bf hc1
    refine dz_aload_n x.1 0 d_Model_closeLine_20 rfl rfl ?_
    refine dz_iconst x.1 d_Model_closeLine_21 ?_
    refine dz_puti x.1 (ly_Model b) fl_Model_173 fp_Model_19 d_Model_closeLine_22 ?_
    exact ly_vret x d_Model_closeLine_25 ⟨rfl, sp_fl.rf.len _, ⟨fun e => absurd e hc1, fun e => ((QI.len 0).2 e)⟩, dz_up_s _ _ _ _⟩
  · have hc1 : put = true := dz_bt hc1
    refine dz_aload_n x.1 0 d_Model_closeLine_4 rfl rfl ?_
    refine dz_iload_n x.1 1 d_Model_closeLine_5 rfl rfl ?_
    refine dz_aload_n x.1 0 d_Model_closeLine_6 rfl rfl ?_
    refine dz_aload_n x.1 0 d_Model_closeLine_7 rfl rfl ?_
    refine dz_getr x.1 (ly_Model b) fl_Model_33 (lr_Model_13 b) d_Model_closeLine_8 ?_
    refine dz_iload_n x.1 1 d_Model_closeLine_11 rfl rfl ?_
    refine dz_iald (w := k) x.1 (ly_MBlockKind b) (by decide) (by omega) d_Model_closeLine_12 LI.2.1 ?_
    refine dz_iload_n x.1 2 d_Model_closeLine_13 rfl rfl ?_
    refine ly_callV (rest := [.int (dz_i (j : Int)), .ref (b + 130)]) x cl_Model_185 (c_Model_indentOf l D Dt b sz I k (C.length : Int) (by omega) (by omega)) (by decide) (ly_Model b) rfl rfl rfl rfl (Nat.le_of_ble_eq_true rfl) d_Model_closeLine_14 (fun v I' hp14 => ?_)
    obtain ⟨rfl, hp14I⟩ := hp14
    have hp14I := hp14I.symm
    subst hp14I
    show ly_V κ b sz I 17 [(0, .ref (b + 130)), (1, .int (dz_i (j : Int))), (2, .int (dz_i (C.length : Int))), (3, .int (dz_i (if put = true then 1 else 0)))] [.int (dz_i (sp_ind k (C.length : Int))), .int (dz_i (j : Int)), .ref (b + 130)]
    refine ly_callV (rest := []) x cl_Model_193 (c_Model_putLine l D Dt b sz I W T P L j k LI hPL y0 hy W0 hW0 C hC (QI.1 hc1) r RI hr) (by decide) (ly_Model b) rfl rfl rfl rfl (Nat.le_of_ble_eq_true rfl) d_Model_closeLine_17 (fun v J17 hp17 => ?_)
    obtain ⟨rfl, F17, P17, z17⟩ := hp17
    show ly_V κ b sz J17 20 [(0, .ref (b + 130)), (1, .int (dz_i (j : Int))), (2, .int (dz_i (C.length : Int))), (3, .int (dz_i (if put = true then 1 else 0)))] []
    refine dz_aload_n x.1 0 d_Model_closeLine_20 rfl rfl ?_
    refine dz_iconst x.1 d_Model_closeLine_21 ?_
    refine dz_puti x.1 (ly_Model b) fl_Model_173 fp_Model_19 d_Model_closeLine_22 ?_
    exact ly_vret x d_Model_closeLine_25 ⟨rfl, F17.len _, ⟨fun _ => (P17.fr (fun q hq => dz_up_k _ _ _ hq) (dz_up_n _ _ _ (by omega)) (dz_up_n _ _ _ (by omega))), fun e => by rw [hc1] at e; cases e⟩, dz_up_s _ _ _ _⟩
set_option maxRecDepth 100000 in
set_option maxHeartbeats 4000000 in
theorem c_Model_lay (l : Launch) (D : va_G) (Dt : Nat → ClassId) (b sz : Nat) (I : dz_Hp) (W T P L : Int) (j : Nat) (k : Int) (LI : sp_LC b I W T j k) (hPL : (-2147483648 ≤ P ∧ P < 2147483648) ∧ -2147483648 ≤ L ∧ L < 2147483648) (y0 : Int × Int × Int) (hy : (0 ≤ y0.2.1 ∧ y0.2.1 ≤ T) ∧ (0 ≤ y0.1 ∧ y0.1 ≤ 5000) ∧ y0.2.2 ≤ y0.1 ∧ 0 ≤ y0.2.2) (W0 : Int → Int) (hW0 : 0 ≤ sp_dd T P L (y0.1, y0.2.1) → ∀ v : Int, W0 v = 0) (put : Bool) (QI : sp_PQ put b I I W T P L j k y0 W0 ([])) (m : Nat) (h : Int → Int) (CI : sp_MC b I (240 * (j : Int)) (m : Int) h) (hsz : I (b + 138) (j : Int) = (m : Int)) : ly_M l D Dt b sz y_Model_lay b_Model_lay 9 (some .int) 3 [.ref (b + 130), .int (dz_i (j : Int)), .int (dz_i (if put = true then 1 else 0))] I (fun v I' => v = some (.int (dz_i ((sp_nl (sp_fd W k h m)).length : Int))) ∧ sp_fl b j I I' ∧ sp_PQ put b I I' W T P L j k y0 W0 (sp_nl (sp_fd W k h m))) := by
  refine ly_enter R_Model (by decide) rfl (Nat.le_of_ble_eq_true rfl) (ly_cat _ 0 rfl) (fun κ x => ?_)
  have hN := ly_N x
  have hW := LI.2.2.1
  have hT := LI.2.2.2.1
  have hk := LI.2.2.2.2.1
  have hj := LI.2.2.2.2.2
  have hm := CI.1.1
  have hh0 : h (-1) = 0 := CI.1.2.1 _ (by omega)
  have k241 : ∀ (C : List (List Int)) (r : List Int) (a : Nat) (J : dz_Hp), (sp_fd W k h m = (C, r)) → (sp_fl b j I J) → (sp_PQ put b I J W T P L j k y0 W0 (C)) → (sp_rw b J r) → ly_V κ b sz J 241 [(0, .ref (b + 130)), (1, .int (dz_i (j : Int))), (2, .int (dz_i (if put = true then 1 else 0))), (3, .int (dz_i (C.length : Int))), (4, .int (dz_i (240 * (j : Int) + (a : Int)))), (5, .int (dz_i (240 * (j : Int) + (m : Int))))] [] := by
    intro C r a J hfd FJ QJ RJ
    have hb9 := sp_fd_b hW.1 hh0 hfd
    have hir := sp_ind_rng k (C.length : Int)
    refine dz_aload_n x.1 0 d_Model_lay_241 rfl rfl ?_
    refine dz_geti (z := (r.length : Int)) x.1 (ly_Model b) fl_Model_173 d_Model_lay_242 RJ.1 ?_
    refine dz_if_le (tgt := 258) x.1 d_Model_lay_245 (by decide) (by omega) (fun hc245 => ?_) (fun hc245 => ?_)
    · refine dz_iload_n x.1 3 d_Model_lay_258 rfl rfl ?_
      have hr0 : r = [] := by
        cases r with
        | nil => rfl
        | cons u t => exfalso; simp only [List.length_cons] at hc245; omega
      have hnl : sp_nl (sp_fd W k h m) = C := by rw [hfd]; unfold sp_nl; rw [if_pos hr0]
      exact ly_iret x d_Model_lay_259 rfl ⟨by rw [hnl], FJ, by rw [hnl]; exact QJ⟩
    · refine dz_aload_n x.1 0 d_Model_lay_248 rfl rfl ?_
      refine dz_iload_n x.1 1 d_Model_lay_249 rfl rfl ?_
      refine dz_iload_n x.1 3 d_Model_lay_250 rfl rfl ?_
      refine dz_iload_n x.1 2 d_Model_lay_251 rfl rfl ?_
      refine ly_callV (rest := []) x cl_Model_189 (c_Model_closeLine l D Dt b sz J W T P L j k (LI.fl FJ) hPL y0 hy W0 hW0 C (by omega) put I QJ r RJ (by omega)) (by decide) (ly_Model b) rfl rfl rfl rfl (Nat.le_of_ble_eq_true rfl) d_Model_lay_252 (fun v J252 hp252 => ?_)
      obtain ⟨rfl, fJ252, QJ252, zJ252⟩ := hp252
      have FJ252 : sp_fl b j I J252 := FJ.tr fJ252
      have RJ252 : sp_rw b J252 [] := sp_rw_0 zJ252
      have eJ252 : ((C ++ [r]).length : Int) = (C.length : Int) + 1 := by simp
      show ly_V κ b sz J252 255 [(0, .ref (b + 130)), (1, .int (dz_i (j : Int))), (2, .int (dz_i (if put = true then 1 else 0))), (3, .int (dz_i (C.length : Int))), (4, .int (dz_i (240 * (j : Int) + (a : Int)))), (5, .int (dz_i (240 * (j : Int) + (m : Int))))] []
      refine dz_iinc (z := (C.length : Int) + 1) (ls' := [(0, .ref (b + 130)), (1, .int (dz_i (j : Int))), (2, .int (dz_i (if put = true then 1 else 0))), (3, .int (dz_i ((C.length : Int) + 1))), (4, .int (dz_i (240 * (j : Int) + (a : Int)))), (5, .int (dz_i (240 * (j : Int) + (m : Int))))]) x.1 3 d_Model_lay_255 rfl hN (by decide) (by omega) rfl ?_
      refine dz_iload_n x.1 3 d_Model_lay_258 rfl rfl ?_
      have hr0 : ¬ r = [] := fun z => by rw [z] at hc245; simp at hc245
      have hnl : sp_nl (sp_fd W k h m) = C ++ [r] := by rw [hfd]; unfold sp_nl; rw [if_neg hr0]
      exact ly_iret x d_Model_lay_259 rfl ⟨by rw [hnl, eJ252], FJ252, by rw [hnl]; exact QJ252⟩
  have loop : ∀ (k9 : Nat) (a : Nat) (C : List (List Int)) (r : List Int) (J : dz_Hp), (a ≤ m + 1 ∧ m + 1 - a ≤ k9) → (h ((a : Int) - 1) = 0) → (sp_fd W k h a = (C, r)) → (sp_fl b j I J) → (sp_PQ put b I J W T P L j k y0 W0 (C)) → (sp_rw b J r) → ly_V κ b sz J 25 [(0, .ref (b + 130)), (1, .int (dz_i (j : Int))), (2, .int (dz_i (if put = true then 1 else 0))), (3, .int (dz_i (C.length : Int))), (4, .int (dz_i (240 * (j : Int) + (a : Int)))), (5, .int (dz_i (240 * (j : Int) + (m : Int))))] [] := by
    intro k9
    induction k9 with
    | zero =>
      intro a C r J ha hbd hfd FJ QJ RJ
      have ea : a = m + 1 := by omega
      have hfm : sp_fd W k h m = (C, r) := by rw [ea, sp_fd_0 (CI.1.2.1 _ (by omega))] at hfd; exact hfd
      refine dz_iload x.1 4 d_Model_lay_25 rfl ?_
      refine dz_iload x.1 5 d_Model_lay_27 rfl ?_
      refine dz_icmp_ge (tgt := 241) x.1 d_Model_lay_29 (by decide) (by omega) (by omega) (fun hc29 => ?_) (fun hc29 => by exfalso; omega)
      exact k241 C r a J hfm FJ QJ RJ
    | succ k9 ih =>
      intro a C r J ha hbd hfd FJ QJ RJ
      by_cases ham : a < m
      · have hb9 := sp_fd_b hW.1 hh0 hfd
        have hep := sp_hh_ep CI.1 (q := (a : Int)) (by omega)
        obtain ⟨e, he⟩ : ∃ e : Nat, (e : Int) = sp_ep h (a : Int) := ⟨(sp_ep h (a : Int)).toNat, by omega⟩
        rw [← he] at hep
        have k235 : ∀ (C : List (List Int)) (r : List Int) (J : dz_Hp), (sp_fd W k h e = (C, r)) → (sp_fl b j I J) → (sp_PQ put b I J W T P L j k y0 W0 (C)) → (sp_rw b J r) → ly_V κ b sz J 235 [(0, .ref (b + 130)), (1, .int (dz_i (j : Int))), (2, .int (dz_i (if put = true then 1 else 0))), (3, .int (dz_i (C.length : Int))), (4, .int (dz_i (240 * (j : Int) + (e : Int)))), (5, .int (dz_i (240 * (j : Int) + (m : Int)))), (6, .int (dz_i (240 * (j : Int) + (e : Int))))] [] := by
          intro C r J hfe FJ QJ RJ
          refine dz_iinc (z := 240 * (j : Int) + (e : Int) + 1) (ls' := [(0, .ref (b + 130)), (1, .int (dz_i (j : Int))), (2, .int (dz_i (if put = true then 1 else 0))), (3, .int (dz_i (C.length : Int))), (4, .int (dz_i (240 * (j : Int) + (e : Int) + 1))), (5, .int (dz_i (240 * (j : Int) + (m : Int)))), (6, .int (dz_i (240 * (j : Int) + (e : Int))))]) x.1 4 d_Model_lay_235 rfl hN (by decide) (by omega) rfl ?_
          refine dz_goto (tgt := 25) x.1 d_Model_lay_238 (by decide) ?_
          refine dz_take 6 (ls' := [(0, .ref (b + 130)), (1, .int (dz_i (j : Int))), (2, .int (dz_i (if put = true then 1 else 0))), (3, .int (dz_i (C.length : Int))), (4, .int (dz_i (240 * (j : Int) + (e : Int) + 1))), (5, .int (dz_i (240 * (j : Int) + (m : Int))))]) rfl ?_
          have h9 := ih (e + 1) C r J (by omega) (by rw [show ((e + 1 : Nat) : Int) - 1 = (e : Int) by omega]; exact hep.2.2.2.2.1) (by rw [sp_fd_0 hep.2.2.2.2.1]; exact hfe) FJ QJ RJ
          rw [show ((e + 1 : Nat) : Int) = (e : Int) + 1 by omega, ← Int.add_assoc] at h9
          exact h9
        have loop2 : ∀ (k2 : Nat) (i : Nat) (C : List (List Int)) (r : List Int) (J : dz_Hp), (a ≤ i ∧ i ≤ e) → (2 * (e - i) + (if r = [] then 0 else 1) ≤ k2) → ((i = e ∧ sp_fd W k h e = (C, r)) ∨ (i < e ∧ i = a ∧ ¬ r = [] ∧ sp_fd W k h a = (C, r)) ∨ (i < e ∧ r = [] ∧ sp_fd W k h (i + 1) = (C, [h (i : Int)]))) → (sp_fl b j I J) → (sp_PQ put b I J W T P L j k y0 W0 (C)) → (sp_rw b J r) → ly_V κ b sz J 59 [(0, .ref (b + 130)), (1, .int (dz_i (j : Int))), (2, .int (dz_i (if put = true then 1 else 0))), (3, .int (dz_i (C.length : Int))), (4, .int (dz_i (240 * (j : Int) + (i : Int)))), (5, .int (dz_i (240 * (j : Int) + (m : Int)))), (6, .int (dz_i (240 * (j : Int) + (e : Int))))] [] := by
          intro k2
          induction k2 with
          | zero =>
            intro i C r J hi hmu hst FJ QJ RJ
            rcases hst with ⟨hie, hfe⟩ | ⟨hie, hia, hrn, hfa⟩ | ⟨hie, hrn, hfi⟩
            · rw [hie]
              refine dz_iload x.1 4 d_Model_lay_59 rfl ?_
              refine dz_iload x.1 6 d_Model_lay_61 rfl ?_
              refine dz_icmp_ge (tgt := 235) x.1 d_Model_lay_63 (by decide) (by omega) (by omega) (fun hc63 => ?_) (fun hc63 => by exfalso; omega)
              exact k235 C r J hfe FJ QJ RJ
            · exfalso; rw [if_neg hrn] at hmu; omega
            · exfalso; omega
          | succ k2 ih2 =>
            intro i C r J hi hmu hst FJ QJ RJ
            rcases hst with ⟨hie, hfe⟩ | ⟨hie, hia, hrn, hfa⟩ | ⟨hie, hrn, hfi⟩
            · rw [hie]
              refine dz_iload x.1 4 d_Model_lay_59 rfl ?_
              refine dz_iload x.1 6 d_Model_lay_61 rfl ?_
              refine dz_icmp_ge (tgt := 235) x.1 d_Model_lay_63 (by decide) (by omega) (by omega) (fun hc63 => ?_) (fun hc63 => by exfalso; omega)
              exact k235 C r J hfe FJ QJ RJ
            · have hb8 := sp_fd_b hW.1 hh0 hfa
              have hr1 := hb8.2.2.2 hrn
              rw [if_neg hrn] at hmu
              have ha0 : ¬ h (a : Int) = 0 := hep.2.2.2.2.2 (a : Int) (by omega) (by omega)
              have hir := sp_ind_rng k (C.length : Int)
              have loopf : ∀ (nd : Int) (k3 : Nat) (i2 : Nat) (r2 : List Int) (J2 : dz_Hp), (a ≤ i2 ∧ i ≤ i2 ∧ i2 ≤ e ∧ e - i2 ≤ k3) → ((i2 < e ∧ (r2.length : Int) < W - sp_ind k (C.length : Int) ∧ sp_fd W k h (i2 + 1) = (C, r2 ++ [h (i2 : Int)])) ∨ (i < i2 ∧ sp_fd W k h i2 = (C, r2) ∧ (r2.length : Int) ≤ W - sp_ind k (C.length : Int))) → (sp_fl b j I J2) → (sp_PQ put b I J2 W T P L j k y0 W0 (C)) → (sp_rw b J2 r2) → ly_V κ b sz J2 167 [(0, .ref (b + 130)), (1, .int (dz_i (j : Int))), (2, .int (dz_i (if put = true then 1 else 0))), (3, .int (dz_i (C.length : Int))), (4, .int (dz_i (240 * (j : Int) + (i2 : Int)))), (5, .int (dz_i (240 * (j : Int) + (m : Int)))), (6, .int (dz_i (240 * (j : Int) + (e : Int)))), (7, .int (dz_i (W - (sp_ind k (C.length : Int))))), (8, .int (dz_i nd))] [] := by
                intro nd k3
                induction k3 with
                | zero =>
                  intro i2 r2 J2 hi2 hff FJ2 QJ2 RJ2
                  refine dz_iload x.1 4 d_Model_lay_167 rfl ?_
                  refine dz_iload x.1 6 d_Model_lay_169 rfl ?_
                  refine dz_icmp_ge (tgt := 215) x.1 d_Model_lay_171 (by decide) (by omega) (by omega) (fun hc171 => ?_) (fun hc171 => by exfalso; omega)
                  refine dz_iload x.1 4 d_Model_lay_215 rfl ?_
                  refine dz_iload x.1 6 d_Model_lay_217 rfl ?_
                  refine dz_icmp_ge (tgt := 232) x.1 d_Model_lay_219 (by decide) (by omega) (by omega) (fun hc219 => ?_) (fun hc219 => by exfalso; omega)
                  refine dz_goto (tgt := 59) x.1 d_Model_lay_232 (by decide) ?_
                  refine dz_take 7 (ls' := [(0, .ref (b + 130)), (1, .int (dz_i (j : Int))), (2, .int (dz_i (if put = true then 1 else 0))), (3, .int (dz_i (C.length : Int))), (4, .int (dz_i (240 * (j : Int) + (i2 : Int)))), (5, .int (dz_i (240 * (j : Int) + (m : Int)))), (6, .int (dz_i (240 * (j : Int) + (e : Int))))]) rfl ?_
                  rcases hff with hff | hff
                  · exfalso; omega
                  · have ei : i2 = e := by omega
                    rw [ei]
                    exact ih2 e C r2 J2 (by omega) (by split <;> omega) (Or.inl ⟨rfl, by rw [← ei]; exact hff.2.1⟩) FJ2 QJ2 RJ2
                | succ k3 ih3 =>
                  intro i2 r2 J2 hi2 hff FJ2 QJ2 RJ2
                  refine dz_iload x.1 4 d_Model_lay_167 rfl ?_
                  refine dz_iload x.1 6 d_Model_lay_169 rfl ?_
                  refine dz_icmp_ge (tgt := 215) x.1 d_Model_lay_171 (by decide) (by omega) (by omega) (fun hc171 => ?_) (fun hc171 => ?_)
                  · refine dz_iload x.1 4 d_Model_lay_215 rfl ?_
                    refine dz_iload x.1 6 d_Model_lay_217 rfl ?_
                    refine dz_icmp_ge (tgt := 232) x.1 d_Model_lay_219 (by decide) (by omega) (by omega) (fun hc219 => ?_) (fun hc219 => ?_)
                    · refine dz_goto (tgt := 59) x.1 d_Model_lay_232 (by decide) ?_
                      refine dz_take 7 (ls' := [(0, .ref (b + 130)), (1, .int (dz_i (j : Int))), (2, .int (dz_i (if put = true then 1 else 0))), (3, .int (dz_i (C.length : Int))), (4, .int (dz_i (240 * (j : Int) + (i2 : Int)))), (5, .int (dz_i (240 * (j : Int) + (m : Int)))), (6, .int (dz_i (240 * (j : Int) + (e : Int))))]) rfl ?_
                      rcases hff with hff | hff
                      · exfalso; omega
                      · have ei : i2 = e := by omega
                        rw [ei]
                        exact ih2 e C r2 J2 (by omega) (by split <;> omega) (Or.inl ⟨rfl, by rw [← ei]; exact hff.2.1⟩) FJ2 QJ2 RJ2
                    · have hmid : i < i2 ∧ sp_fd W k h i2 = (C, r2) ∧ (r2.length : Int) ≤ W - sp_ind k (C.length : Int) := by
                        rcases hff with hff | hff
                        · exfalso; omega
                        · exact hff
                      have hcut := sp_fd_cut hmid.2.1 (hep.2.2.2.2.2 (i2 : Int) (by omega) (by omega)) (hep.2.2.2.2.2 ((i2 : Int) - 1) (by omega) (by omega)) (by omega)
                      have hcb := sp_fd_b hW.1 hh0 hmid.2.1
                      refine dz_aload_n x.1 0 d_Model_lay_222 rfl rfl ?_
                      refine dz_iload_n x.1 1 d_Model_lay_223 rfl rfl ?_
                      refine dz_iload_n x.1 3 d_Model_lay_224 rfl rfl ?_
                      refine dz_iload_n x.1 2 d_Model_lay_225 rfl rfl ?_
                      refine ly_callV (rest := []) x cl_Model_189 (c_Model_closeLine l D Dt b sz J2 W T P L j k (LI.fl FJ2) hPL y0 hy W0 hW0 C (by omega) put I QJ2 r2 RJ2 (by omega)) (by decide) (ly_Model b) rfl rfl rfl rfl (Nat.le_of_ble_eq_true rfl) d_Model_lay_226 (fun v J226 hp226 => ?_)
                      obtain ⟨rfl, fJ226, QJ226, zJ226⟩ := hp226
                      have FJ226 : sp_fl b j I J226 := FJ2.tr fJ226
                      have RJ226 : sp_rw b J226 [] := sp_rw_0 zJ226
                      have eJ226 : ((C ++ [r2]).length : Int) = (C.length : Int) + 1 := by simp
                      show ly_V κ b sz J226 229 [(0, .ref (b + 130)), (1, .int (dz_i (j : Int))), (2, .int (dz_i (if put = true then 1 else 0))), (3, .int (dz_i (C.length : Int))), (4, .int (dz_i (240 * (j : Int) + (i2 : Int)))), (5, .int (dz_i (240 * (j : Int) + (m : Int)))), (6, .int (dz_i (240 * (j : Int) + (e : Int)))), (7, .int (dz_i (W - (sp_ind k (C.length : Int))))), (8, .int (dz_i nd))] []
                      refine dz_iinc (z := (C.length : Int) + 1) (ls' := [(0, .ref (b + 130)), (1, .int (dz_i (j : Int))), (2, .int (dz_i (if put = true then 1 else 0))), (3, .int (dz_i ((C.length : Int) + 1))), (4, .int (dz_i (240 * (j : Int) + (i2 : Int)))), (5, .int (dz_i (240 * (j : Int) + (m : Int)))), (6, .int (dz_i (240 * (j : Int) + (e : Int)))), (7, .int (dz_i (W - (sp_ind k (C.length : Int))))), (8, .int (dz_i nd))]) x.1 3 d_Model_lay_229 rfl hN (by decide) (by omega) rfl ?_
                      refine dz_goto (tgt := 59) x.1 d_Model_lay_232 (by decide) ?_
                      refine dz_take 7 (ls' := [(0, .ref (b + 130)), (1, .int (dz_i (j : Int))), (2, .int (dz_i (if put = true then 1 else 0))), (3, .int (dz_i ((C.length : Int) + 1))), (4, .int (dz_i (240 * (j : Int) + (i2 : Int)))), (5, .int (dz_i (240 * (j : Int) + (m : Int)))), (6, .int (dz_i (240 * (j : Int) + (e : Int))))]) rfl ?_
                      have h9 := ih2 i2 (C ++ [r2]) [] J226 (by omega) (by rw [if_pos rfl]; omega) (Or.inr (Or.inr ⟨by omega, rfl, hcut⟩)) FJ226 QJ226 RJ226
                      rw [eJ226] at h9
                      exact h9
                  · refine dz_aload_n x.1 0 d_Model_lay_174 rfl rfl ?_
                    refine dz_geti (z := (r2.length : Int)) x.1 (ly_Model b) fl_Model_173 d_Model_lay_175 RJ2.1 ?_
                    refine dz_iload x.1 7 d_Model_lay_178 rfl ?_
                    refine dz_icmp_ge (tgt := 215) x.1 d_Model_lay_180 (by decide) (by omega) (by omega) (fun hc180 => ?_) (fun hc180 => ?_)
                    · refine dz_iload x.1 4 d_Model_lay_215 rfl ?_
                      refine dz_iload x.1 6 d_Model_lay_217 rfl ?_
                      refine dz_icmp_ge (tgt := 232) x.1 d_Model_lay_219 (by decide) (by omega) (by omega) (fun hc219 => ?_) (fun hc219 => ?_)
                      · refine dz_goto (tgt := 59) x.1 d_Model_lay_232 (by decide) ?_
                        refine dz_take 7 (ls' := [(0, .ref (b + 130)), (1, .int (dz_i (j : Int))), (2, .int (dz_i (if put = true then 1 else 0))), (3, .int (dz_i (C.length : Int))), (4, .int (dz_i (240 * (j : Int) + (i2 : Int)))), (5, .int (dz_i (240 * (j : Int) + (m : Int)))), (6, .int (dz_i (240 * (j : Int) + (e : Int))))]) rfl ?_
                        rcases hff with hff | hff
                        · exfalso; omega
                        · have ei : i2 = e := by omega
                          rw [ei]
                          exact ih2 e C r2 J2 (by omega) (by split <;> omega) (Or.inl ⟨rfl, by rw [← ei]; exact hff.2.1⟩) FJ2 QJ2 RJ2
                      · have hmid : i < i2 ∧ sp_fd W k h i2 = (C, r2) ∧ (r2.length : Int) ≤ W - sp_ind k (C.length : Int) := by
                          rcases hff with hff | hff
                          · exfalso; omega
                          · exact hff
                        have hcut := sp_fd_cut hmid.2.1 (hep.2.2.2.2.2 (i2 : Int) (by omega) (by omega)) (hep.2.2.2.2.2 ((i2 : Int) - 1) (by omega) (by omega)) (by omega)
                        have hcb := sp_fd_b hW.1 hh0 hmid.2.1
                        refine dz_aload_n x.1 0 d_Model_lay_222 rfl rfl ?_
                        refine dz_iload_n x.1 1 d_Model_lay_223 rfl rfl ?_
                        refine dz_iload_n x.1 3 d_Model_lay_224 rfl rfl ?_
                        refine dz_iload_n x.1 2 d_Model_lay_225 rfl rfl ?_
                        refine ly_callV (rest := []) x cl_Model_189 (c_Model_closeLine l D Dt b sz J2 W T P L j k (LI.fl FJ2) hPL y0 hy W0 hW0 C (by omega) put I QJ2 r2 RJ2 (by omega)) (by decide) (ly_Model b) rfl rfl rfl rfl (Nat.le_of_ble_eq_true rfl) d_Model_lay_226 (fun v J226 hp226 => ?_)
                        obtain ⟨rfl, fJ226, QJ226, zJ226⟩ := hp226
                        have FJ226 : sp_fl b j I J226 := FJ2.tr fJ226
                        have RJ226 : sp_rw b J226 [] := sp_rw_0 zJ226
                        have eJ226 : ((C ++ [r2]).length : Int) = (C.length : Int) + 1 := by simp
                        show ly_V κ b sz J226 229 [(0, .ref (b + 130)), (1, .int (dz_i (j : Int))), (2, .int (dz_i (if put = true then 1 else 0))), (3, .int (dz_i (C.length : Int))), (4, .int (dz_i (240 * (j : Int) + (i2 : Int)))), (5, .int (dz_i (240 * (j : Int) + (m : Int)))), (6, .int (dz_i (240 * (j : Int) + (e : Int)))), (7, .int (dz_i (W - (sp_ind k (C.length : Int))))), (8, .int (dz_i nd))] []
                        refine dz_iinc (z := (C.length : Int) + 1) (ls' := [(0, .ref (b + 130)), (1, .int (dz_i (j : Int))), (2, .int (dz_i (if put = true then 1 else 0))), (3, .int (dz_i ((C.length : Int) + 1))), (4, .int (dz_i (240 * (j : Int) + (i2 : Int)))), (5, .int (dz_i (240 * (j : Int) + (m : Int)))), (6, .int (dz_i (240 * (j : Int) + (e : Int)))), (7, .int (dz_i (W - (sp_ind k (C.length : Int))))), (8, .int (dz_i nd))]) x.1 3 d_Model_lay_229 rfl hN (by decide) (by omega) rfl ?_
                        refine dz_goto (tgt := 59) x.1 d_Model_lay_232 (by decide) ?_
                        refine dz_take 7 (ls' := [(0, .ref (b + 130)), (1, .int (dz_i (j : Int))), (2, .int (dz_i (if put = true then 1 else 0))), (3, .int (dz_i ((C.length : Int) + 1))), (4, .int (dz_i (240 * (j : Int) + (i2 : Int)))), (5, .int (dz_i (240 * (j : Int) + (m : Int)))), (6, .int (dz_i (240 * (j : Int) + (e : Int))))]) rfl ?_
                        have h9 := ih2 i2 (C ++ [r2]) [] J226 (by omega) (by rw [if_pos rfl]; omega) (Or.inr (Or.inr ⟨by omega, rfl, hcut⟩)) FJ226 QJ226 RJ226
                        rw [eJ226] at h9
                        exact h9
                    · refine dz_aload_n x.1 0 d_Model_lay_183 rfl rfl ?_
                      refine dz_getr x.1 (ly_Model b) fl_Model_48 (lr_Model_20 b) d_Model_lay_184 ?_
                      refine dz_aload_n x.1 0 d_Model_lay_187 rfl rfl ?_
                      refine dz_geti (z := (r2.length : Int)) x.1 (ly_Model b) fl_Model_173 d_Model_lay_188 RJ2.1 ?_
                      refine dz_aload_n x.1 0 d_Model_lay_191 rfl rfl ?_
                      refine dz_getr x.1 (ly_Model b) fl_Model_39 (lr_Model_15 b) d_Model_lay_192 ?_
                      refine dz_iload x.1 4 d_Model_lay_195 rfl ?_
                      refine dz_iald (w := (h (i2 : Int))) x.1 (ly_MCells b) (by decide) (by omega) d_Model_lay_197 ((CI.fl FJ2).2.2 (i2 : Int) (by omega) (by omega)) ?_
                      refine dz_iast x.1 (ly_MRow b) (by decide) (by omega) d_Model_lay_198 ?_
                      refine dz_aload_n x.1 0 d_Model_lay_199 rfl rfl ?_
                      refine dz_dup x.1 d_Model_lay_200 rfl ?_
                      refine dz_geti (z := (r2.length : Int)) x.1 (ly_Model b) fl_Model_173 d_Model_lay_201 (by rw [dz_up_n _ _ _ (by omega)]; exact RJ2.1) ?_
                      refine dz_iconst x.1 d_Model_lay_204 ?_
                      refine dz_iadd (z := (r2.length : Int) + 1) x.1 d_Model_lay_205 (by omega) ?_
                      refine dz_puti x.1 (ly_Model b) fl_Model_173 fp_Model_19 d_Model_lay_206 ?_
                      refine dz_iinc (z := 240 * (j : Int) + (i2 : Int) + 1) (ls' := [(0, .ref (b + 130)), (1, .int (dz_i (j : Int))), (2, .int (dz_i (if put = true then 1 else 0))), (3, .int (dz_i (C.length : Int))), (4, .int (dz_i (240 * (j : Int) + (i2 : Int) + 1))), (5, .int (dz_i (240 * (j : Int) + (m : Int)))), (6, .int (dz_i (240 * (j : Int) + (e : Int)))), (7, .int (dz_i (W - (sp_ind k (C.length : Int))))), (8, .int (dz_i nd))]) x.1 4 d_Model_lay_209 rfl hN (by decide) (by omega) rfl ?_
                      refine dz_goto (tgt := 167) x.1 d_Model_lay_212 (by decide) ?_
                      have hnew : sp_fd W k h (i2 + 1) = (C, r2 ++ [h (i2 : Int)]) := by
                        rcases hff with hff | hff
                        · exact hff.2.2
                        · exact sp_fd_in hff.2.1 (hep.2.2.2.2.2 (i2 : Int) (by omega) (by omega)) (hep.2.2.2.2.2 ((i2 : Int) - 1) (by omega) (by omega)) (by omega)
                      have h9 := ih3 (i2 + 1) (r2 ++ [h (i2 : Int)]) _ (by omega) (Or.inr ⟨by omega, hnew, by simp only [List.length_append, List.length_cons, List.length_nil]; omega⟩) ((FJ2.row _ _).len _) ((QJ2.row _ _).len _) (RJ2.put (by omega) _)
                      rw [show ((i2 + 1 : Nat) : Int) = (i2 : Int) + 1 by omega, ← Int.add_assoc] at h9
                      exact h9
              refine dz_iload x.1 4 d_Model_lay_59 rfl ?_
              refine dz_iload x.1 6 d_Model_lay_61 rfl ?_
              refine dz_icmp_ge (tgt := 235) x.1 d_Model_lay_63 (by decide) (by omega) (by omega) (fun hc63 => by exfalso; omega) (fun hc63 => ?_)
              refine dz_aload_n x.1 0 d_Model_lay_66 rfl rfl ?_
              refine dz_geti (z := W) x.1 (ly_Model b) fl_Model_57 d_Model_lay_67 (LI.fl FJ).1.1 ?_
              refine dz_aload_n x.1 0 d_Model_lay_70 rfl rfl ?_
              refine dz_aload_n x.1 0 d_Model_lay_71 rfl rfl ?_
              refine dz_getr x.1 (ly_Model b) fl_Model_33 (lr_Model_13 b) d_Model_lay_72 ?_
              refine dz_iload_n x.1 1 d_Model_lay_75 rfl rfl ?_
              refine dz_iald (w := k) x.1 (ly_MBlockKind b) (by decide) (by omega) d_Model_lay_76 (LI.fl FJ).2.1 ?_
              refine dz_iload_n x.1 3 d_Model_lay_77 rfl rfl ?_
              refine ly_callV (rest := [.int (dz_i W)]) x cl_Model_185 (c_Model_indentOf l D Dt b sz J k (C.length : Int) (by omega) (by omega)) (by decide) (ly_Model b) rfl rfl rfl rfl (Nat.le_of_ble_eq_true rfl) d_Model_lay_78 (fun v I' hp78 => ?_)
              obtain ⟨rfl, hp78I⟩ := hp78
              have hp78I := hp78I.symm
              subst hp78I
              have hir := sp_ind_rng k (C.length : Int)
              show ly_V κ b sz J 81 [(0, .ref (b + 130)), (1, .int (dz_i (j : Int))), (2, .int (dz_i (if put = true then 1 else 0))), (3, .int (dz_i (C.length : Int))), (4, .int (dz_i (240 * (j : Int) + (i : Int)))), (5, .int (dz_i (240 * (j : Int) + (m : Int)))), (6, .int (dz_i (240 * (j : Int) + (e : Int))))] [.int (dz_i (sp_ind k (C.length : Int))), .int (dz_i W)]
              refine dz_isub (z := W - (sp_ind k (C.length : Int))) x.1 d_Model_lay_81 (by omega) ?_
              refine dz_istore (ls' := [(0, .ref (b + 130)), (1, .int (dz_i (j : Int))), (2, .int (dz_i (if put = true then 1 else 0))), (3, .int (dz_i (C.length : Int))), (4, .int (dz_i (240 * (j : Int) + (i : Int)))), (5, .int (dz_i (240 * (j : Int) + (m : Int)))), (6, .int (dz_i (240 * (j : Int) + (e : Int)))), (7, .int (dz_i (W - (sp_ind k (C.length : Int)))))]) x.1 d_Model_lay_82 hN (by decide) rfl ?_
              refine dz_aload_n x.1 0 d_Model_lay_84 rfl rfl ?_
              refine dz_geti (z := (r.length : Int)) x.1 (ly_Model b) fl_Model_173 d_Model_lay_85 RJ.1 ?_
              refine dz_if_ne (tgt := 99) x.1 d_Model_lay_88 (by decide) (by omega) (fun hc88 => ?_) (fun hc88 => by exfalso; omega)
              refine dz_aload_n x.1 0 d_Model_lay_99 rfl rfl ?_
              refine dz_geti (z := (r.length : Int)) x.1 (ly_Model b) fl_Model_173 d_Model_lay_100 RJ.1 ?_
              refine dz_iconst x.1 d_Model_lay_103 ?_
              refine dz_iadd (z := (r.length : Int) + 1) x.1 d_Model_lay_104 (by omega) ?_
              refine dz_iload x.1 6 d_Model_lay_105 rfl ?_
              refine dz_iadd (z := (r.length : Int) + 240 * (j : Int) + (e : Int) + 1) x.1 d_Model_lay_107 (by omega) ?_
              refine dz_iload x.1 4 d_Model_lay_108 rfl ?_
              refine dz_isub (z := (r.length : Int) + (e : Int) - (i : Int) + 1) x.1 d_Model_lay_110 (by omega) ?_
              refine dz_istore (ls' := [(0, .ref (b + 130)), (1, .int (dz_i (j : Int))), (2, .int (dz_i (if put = true then 1 else 0))), (3, .int (dz_i (C.length : Int))), (4, .int (dz_i (240 * (j : Int) + (i : Int)))), (5, .int (dz_i (240 * (j : Int) + (m : Int)))), (6, .int (dz_i (240 * (j : Int) + (e : Int)))), (7, .int (dz_i (W - (sp_ind k (C.length : Int))))), (8, .int (dz_i ((r.length : Int) + (e : Int) - (i : Int) + 1)))]) x.1 d_Model_lay_111 hN (by decide) rfl ?_
              refine dz_aload_n x.1 0 d_Model_lay_113 rfl rfl ?_
              refine dz_geti (z := (r.length : Int)) x.1 (ly_Model b) fl_Model_173 d_Model_lay_114 RJ.1 ?_
              refine dz_if_le (tgt := 140) x.1 d_Model_lay_117 (by decide) (by omega) (fun hc117 => by exfalso; omega) (fun hc117 => ?_)
              refine dz_iload x.1 8 d_Model_lay_120 rfl ?_
              refine dz_iload x.1 7 d_Model_lay_122 rfl ?_
              refine dz_icmp_le (tgt := 140) x.1 d_Model_lay_124 (by decide) (by omega) (by omega) (fun hc124 => ?_) (fun hc124 => ?_)
              · refine dz_aload_n x.1 0 d_Model_lay_140 rfl rfl ?_
                refine dz_geti (z := (r.length : Int)) x.1 (ly_Model b) fl_Model_173 d_Model_lay_141 RJ.1 ?_
                refine dz_if_le (tgt := 167) x.1 d_Model_lay_144 (by decide) (by omega) (fun hc144 => by exfalso; omega) (fun hc144 => ?_)
                refine dz_aload_n x.1 0 d_Model_lay_147 rfl rfl ?_
                refine dz_getr x.1 (ly_Model b) fl_Model_48 (lr_Model_20 b) d_Model_lay_148 ?_
                refine dz_aload_n x.1 0 d_Model_lay_151 rfl rfl ?_
                refine dz_geti (z := (r.length : Int)) x.1 (ly_Model b) fl_Model_173 d_Model_lay_152 RJ.1 ?_
                refine dz_iconst x.1 d_Model_lay_155 ?_
                refine dz_iast x.1 (ly_MRow b) (by decide) (by omega) d_Model_lay_156 ?_
                refine dz_aload_n x.1 0 d_Model_lay_157 rfl rfl ?_
                refine dz_dup x.1 d_Model_lay_158 rfl ?_
                refine dz_geti (z := (r.length : Int)) x.1 (ly_Model b) fl_Model_173 d_Model_lay_159 (by rw [dz_up_n _ _ _ (by omega)]; exact RJ.1) ?_
                refine dz_iconst x.1 d_Model_lay_162 ?_
                refine dz_iadd (z := (r.length : Int) + 1) x.1 d_Model_lay_163 (by omega) ?_
                refine dz_puti x.1 (ly_Model b) fl_Model_173 fp_Model_19 d_Model_lay_164 ?_
                have hft := sp_fd_fit hfa ha0 hbd hrn (by omega)
                exact loopf _ (e - i) i (r ++ [0]) _ (by omega) (Or.inl ⟨hie, by simp only [List.length_append, List.length_cons, List.length_nil]; omega, by rw [hia]; exact hft⟩) ((FJ.row _ _).len _) ((QJ.row _ _).len _) (RJ.put (by omega) _)
              · refine dz_aload_n x.1 0 d_Model_lay_127 rfl rfl ?_
                refine dz_iload_n x.1 1 d_Model_lay_128 rfl rfl ?_
                refine dz_iload_n x.1 3 d_Model_lay_129 rfl rfl ?_
                refine dz_iload_n x.1 2 d_Model_lay_130 rfl rfl ?_
                refine ly_callV (rest := []) x cl_Model_189 (c_Model_closeLine l D Dt b sz J W T P L j k (LI.fl FJ) hPL y0 hy W0 hW0 C (by omega) put I QJ r RJ (by omega)) (by decide) (ly_Model b) rfl rfl rfl rfl (Nat.le_of_ble_eq_true rfl) d_Model_lay_131 (fun v J131 hp131 => ?_)
                obtain ⟨rfl, fJ131, QJ131, zJ131⟩ := hp131
                have FJ131 : sp_fl b j I J131 := FJ.tr fJ131
                have RJ131 : sp_rw b J131 [] := sp_rw_0 zJ131
                have eJ131 : ((C ++ [r]).length : Int) = (C.length : Int) + 1 := by simp
                show ly_V κ b sz J131 134 [(0, .ref (b + 130)), (1, .int (dz_i (j : Int))), (2, .int (dz_i (if put = true then 1 else 0))), (3, .int (dz_i (C.length : Int))), (4, .int (dz_i (240 * (j : Int) + (i : Int)))), (5, .int (dz_i (240 * (j : Int) + (m : Int)))), (6, .int (dz_i (240 * (j : Int) + (e : Int)))), (7, .int (dz_i (W - (sp_ind k (C.length : Int))))), (8, .int (dz_i ((r.length : Int) + (e : Int) - (i : Int) + 1)))] []
                refine dz_iinc (z := (C.length : Int) + 1) (ls' := [(0, .ref (b + 130)), (1, .int (dz_i (j : Int))), (2, .int (dz_i (if put = true then 1 else 0))), (3, .int (dz_i ((C.length : Int) + 1))), (4, .int (dz_i (240 * (j : Int) + (i : Int)))), (5, .int (dz_i (240 * (j : Int) + (m : Int)))), (6, .int (dz_i (240 * (j : Int) + (e : Int)))), (7, .int (dz_i (W - (sp_ind k (C.length : Int))))), (8, .int (dz_i ((r.length : Int) + (e : Int) - (i : Int) + 1)))]) x.1 3 d_Model_lay_134 rfl hN (by decide) (by omega) rfl ?_
                refine dz_goto (tgt := 232) x.1 d_Model_lay_137 (by decide) ?_
                refine dz_goto (tgt := 59) x.1 d_Model_lay_232 (by decide) ?_
                refine dz_take 7 (ls' := [(0, .ref (b + 130)), (1, .int (dz_i (j : Int))), (2, .int (dz_i (if put = true then 1 else 0))), (3, .int (dz_i ((C.length : Int) + 1))), (4, .int (dz_i (240 * (j : Int) + (i : Int)))), (5, .int (dz_i (240 * (j : Int) + (m : Int)))), (6, .int (dz_i (240 * (j : Int) + (e : Int))))]) rfl ?_
                have hnw := sp_fd_new hfa ha0 hbd (by intro z; omega)
                have h9 := ih2 i (C ++ [r]) [] J131 (by omega) (by rw [if_pos rfl]; omega) (Or.inr (Or.inr ⟨hie, rfl, by rw [hia]; rw [show sp_nl (C, r) = C ++ [r] from if_neg hrn] at hnw; exact hnw⟩)) FJ131 QJ131 RJ131
                rw [eJ131] at h9
                exact h9
            · have hb8 := sp_fd_b hW.1 hh0 hfi
              subst hrn
              rw [if_pos rfl] at hmu
              have hir := sp_ind_rng k (C.length : Int)
              have R0 : J (b + 130) 19 = 0 := RJ.1
              have loopf : ∀ (nd : Int) (k3 : Nat) (i2 : Nat) (r2 : List Int) (J2 : dz_Hp), (a ≤ i2 ∧ i ≤ i2 ∧ i2 ≤ e ∧ e - i2 ≤ k3) → ((i2 < e ∧ (r2.length : Int) < W - sp_ind k (C.length : Int) ∧ sp_fd W k h (i2 + 1) = (C, r2 ++ [h (i2 : Int)])) ∨ (i < i2 ∧ sp_fd W k h i2 = (C, r2) ∧ (r2.length : Int) ≤ W - sp_ind k (C.length : Int))) → (sp_fl b j I J2) → (sp_PQ put b I J2 W T P L j k y0 W0 (C)) → (sp_rw b J2 r2) → ly_V κ b sz J2 167 [(0, .ref (b + 130)), (1, .int (dz_i (j : Int))), (2, .int (dz_i (if put = true then 1 else 0))), (3, .int (dz_i (C.length : Int))), (4, .int (dz_i (240 * (j : Int) + (i2 : Int)))), (5, .int (dz_i (240 * (j : Int) + (m : Int)))), (6, .int (dz_i (240 * (j : Int) + (e : Int)))), (7, .int (dz_i (W - (sp_ind k (C.length : Int))))), (8, .int (dz_i nd))] [] := by
                intro nd k3
                induction k3 with
                | zero =>
                  intro i2 r2 J2 hi2 hff FJ2 QJ2 RJ2
                  refine dz_iload x.1 4 d_Model_lay_167 rfl ?_
                  refine dz_iload x.1 6 d_Model_lay_169 rfl ?_
                  refine dz_icmp_ge (tgt := 215) x.1 d_Model_lay_171 (by decide) (by omega) (by omega) (fun hc171 => ?_) (fun hc171 => by exfalso; omega)
                  refine dz_iload x.1 4 d_Model_lay_215 rfl ?_
                  refine dz_iload x.1 6 d_Model_lay_217 rfl ?_
                  refine dz_icmp_ge (tgt := 232) x.1 d_Model_lay_219 (by decide) (by omega) (by omega) (fun hc219 => ?_) (fun hc219 => by exfalso; omega)
                  refine dz_goto (tgt := 59) x.1 d_Model_lay_232 (by decide) ?_
                  refine dz_take 7 (ls' := [(0, .ref (b + 130)), (1, .int (dz_i (j : Int))), (2, .int (dz_i (if put = true then 1 else 0))), (3, .int (dz_i (C.length : Int))), (4, .int (dz_i (240 * (j : Int) + (i2 : Int)))), (5, .int (dz_i (240 * (j : Int) + (m : Int)))), (6, .int (dz_i (240 * (j : Int) + (e : Int))))]) rfl ?_
                  rcases hff with hff | hff
                  · exfalso; omega
                  · have ei : i2 = e := by omega
                    rw [ei]
                    exact ih2 e C r2 J2 (by omega) (by split <;> omega) (Or.inl ⟨rfl, by rw [← ei]; exact hff.2.1⟩) FJ2 QJ2 RJ2
                | succ k3 ih3 =>
                  intro i2 r2 J2 hi2 hff FJ2 QJ2 RJ2
                  refine dz_iload x.1 4 d_Model_lay_167 rfl ?_
                  refine dz_iload x.1 6 d_Model_lay_169 rfl ?_
                  refine dz_icmp_ge (tgt := 215) x.1 d_Model_lay_171 (by decide) (by omega) (by omega) (fun hc171 => ?_) (fun hc171 => ?_)
                  · refine dz_iload x.1 4 d_Model_lay_215 rfl ?_
                    refine dz_iload x.1 6 d_Model_lay_217 rfl ?_
                    refine dz_icmp_ge (tgt := 232) x.1 d_Model_lay_219 (by decide) (by omega) (by omega) (fun hc219 => ?_) (fun hc219 => ?_)
                    · refine dz_goto (tgt := 59) x.1 d_Model_lay_232 (by decide) ?_
                      refine dz_take 7 (ls' := [(0, .ref (b + 130)), (1, .int (dz_i (j : Int))), (2, .int (dz_i (if put = true then 1 else 0))), (3, .int (dz_i (C.length : Int))), (4, .int (dz_i (240 * (j : Int) + (i2 : Int)))), (5, .int (dz_i (240 * (j : Int) + (m : Int)))), (6, .int (dz_i (240 * (j : Int) + (e : Int))))]) rfl ?_
                      rcases hff with hff | hff
                      · exfalso; omega
                      · have ei : i2 = e := by omega
                        rw [ei]
                        exact ih2 e C r2 J2 (by omega) (by split <;> omega) (Or.inl ⟨rfl, by rw [← ei]; exact hff.2.1⟩) FJ2 QJ2 RJ2
                    · have hmid : i < i2 ∧ sp_fd W k h i2 = (C, r2) ∧ (r2.length : Int) ≤ W - sp_ind k (C.length : Int) := by
                        rcases hff with hff | hff
                        · exfalso; omega
                        · exact hff
                      have hcut := sp_fd_cut hmid.2.1 (hep.2.2.2.2.2 (i2 : Int) (by omega) (by omega)) (hep.2.2.2.2.2 ((i2 : Int) - 1) (by omega) (by omega)) (by omega)
                      have hcb := sp_fd_b hW.1 hh0 hmid.2.1
                      refine dz_aload_n x.1 0 d_Model_lay_222 rfl rfl ?_
                      refine dz_iload_n x.1 1 d_Model_lay_223 rfl rfl ?_
                      refine dz_iload_n x.1 3 d_Model_lay_224 rfl rfl ?_
                      refine dz_iload_n x.1 2 d_Model_lay_225 rfl rfl ?_
                      refine ly_callV (rest := []) x cl_Model_189 (c_Model_closeLine l D Dt b sz J2 W T P L j k (LI.fl FJ2) hPL y0 hy W0 hW0 C (by omega) put I QJ2 r2 RJ2 (by omega)) (by decide) (ly_Model b) rfl rfl rfl rfl (Nat.le_of_ble_eq_true rfl) d_Model_lay_226 (fun v J226 hp226 => ?_)
                      obtain ⟨rfl, fJ226, QJ226, zJ226⟩ := hp226
                      have FJ226 : sp_fl b j I J226 := FJ2.tr fJ226
                      have RJ226 : sp_rw b J226 [] := sp_rw_0 zJ226
                      have eJ226 : ((C ++ [r2]).length : Int) = (C.length : Int) + 1 := by simp
                      show ly_V κ b sz J226 229 [(0, .ref (b + 130)), (1, .int (dz_i (j : Int))), (2, .int (dz_i (if put = true then 1 else 0))), (3, .int (dz_i (C.length : Int))), (4, .int (dz_i (240 * (j : Int) + (i2 : Int)))), (5, .int (dz_i (240 * (j : Int) + (m : Int)))), (6, .int (dz_i (240 * (j : Int) + (e : Int)))), (7, .int (dz_i (W - (sp_ind k (C.length : Int))))), (8, .int (dz_i nd))] []
                      refine dz_iinc (z := (C.length : Int) + 1) (ls' := [(0, .ref (b + 130)), (1, .int (dz_i (j : Int))), (2, .int (dz_i (if put = true then 1 else 0))), (3, .int (dz_i ((C.length : Int) + 1))), (4, .int (dz_i (240 * (j : Int) + (i2 : Int)))), (5, .int (dz_i (240 * (j : Int) + (m : Int)))), (6, .int (dz_i (240 * (j : Int) + (e : Int)))), (7, .int (dz_i (W - (sp_ind k (C.length : Int))))), (8, .int (dz_i nd))]) x.1 3 d_Model_lay_229 rfl hN (by decide) (by omega) rfl ?_
                      refine dz_goto (tgt := 59) x.1 d_Model_lay_232 (by decide) ?_
                      refine dz_take 7 (ls' := [(0, .ref (b + 130)), (1, .int (dz_i (j : Int))), (2, .int (dz_i (if put = true then 1 else 0))), (3, .int (dz_i ((C.length : Int) + 1))), (4, .int (dz_i (240 * (j : Int) + (i2 : Int)))), (5, .int (dz_i (240 * (j : Int) + (m : Int)))), (6, .int (dz_i (240 * (j : Int) + (e : Int))))]) rfl ?_
                      have h9 := ih2 i2 (C ++ [r2]) [] J226 (by omega) (by rw [if_pos rfl]; omega) (Or.inr (Or.inr ⟨by omega, rfl, hcut⟩)) FJ226 QJ226 RJ226
                      rw [eJ226] at h9
                      exact h9
                  · refine dz_aload_n x.1 0 d_Model_lay_174 rfl rfl ?_
                    refine dz_geti (z := (r2.length : Int)) x.1 (ly_Model b) fl_Model_173 d_Model_lay_175 RJ2.1 ?_
                    refine dz_iload x.1 7 d_Model_lay_178 rfl ?_
                    refine dz_icmp_ge (tgt := 215) x.1 d_Model_lay_180 (by decide) (by omega) (by omega) (fun hc180 => ?_) (fun hc180 => ?_)
                    · refine dz_iload x.1 4 d_Model_lay_215 rfl ?_
                      refine dz_iload x.1 6 d_Model_lay_217 rfl ?_
                      refine dz_icmp_ge (tgt := 232) x.1 d_Model_lay_219 (by decide) (by omega) (by omega) (fun hc219 => ?_) (fun hc219 => ?_)
                      · refine dz_goto (tgt := 59) x.1 d_Model_lay_232 (by decide) ?_
                        refine dz_take 7 (ls' := [(0, .ref (b + 130)), (1, .int (dz_i (j : Int))), (2, .int (dz_i (if put = true then 1 else 0))), (3, .int (dz_i (C.length : Int))), (4, .int (dz_i (240 * (j : Int) + (i2 : Int)))), (5, .int (dz_i (240 * (j : Int) + (m : Int)))), (6, .int (dz_i (240 * (j : Int) + (e : Int))))]) rfl ?_
                        rcases hff with hff | hff
                        · exfalso; omega
                        · have ei : i2 = e := by omega
                          rw [ei]
                          exact ih2 e C r2 J2 (by omega) (by split <;> omega) (Or.inl ⟨rfl, by rw [← ei]; exact hff.2.1⟩) FJ2 QJ2 RJ2
                      · have hmid : i < i2 ∧ sp_fd W k h i2 = (C, r2) ∧ (r2.length : Int) ≤ W - sp_ind k (C.length : Int) := by
                          rcases hff with hff | hff
                          · exfalso; omega
                          · exact hff
                        have hcut := sp_fd_cut hmid.2.1 (hep.2.2.2.2.2 (i2 : Int) (by omega) (by omega)) (hep.2.2.2.2.2 ((i2 : Int) - 1) (by omega) (by omega)) (by omega)
                        have hcb := sp_fd_b hW.1 hh0 hmid.2.1
                        refine dz_aload_n x.1 0 d_Model_lay_222 rfl rfl ?_
                        refine dz_iload_n x.1 1 d_Model_lay_223 rfl rfl ?_
                        refine dz_iload_n x.1 3 d_Model_lay_224 rfl rfl ?_
                        refine dz_iload_n x.1 2 d_Model_lay_225 rfl rfl ?_
                        refine ly_callV (rest := []) x cl_Model_189 (c_Model_closeLine l D Dt b sz J2 W T P L j k (LI.fl FJ2) hPL y0 hy W0 hW0 C (by omega) put I QJ2 r2 RJ2 (by omega)) (by decide) (ly_Model b) rfl rfl rfl rfl (Nat.le_of_ble_eq_true rfl) d_Model_lay_226 (fun v J226 hp226 => ?_)
                        obtain ⟨rfl, fJ226, QJ226, zJ226⟩ := hp226
                        have FJ226 : sp_fl b j I J226 := FJ2.tr fJ226
                        have RJ226 : sp_rw b J226 [] := sp_rw_0 zJ226
                        have eJ226 : ((C ++ [r2]).length : Int) = (C.length : Int) + 1 := by simp
                        show ly_V κ b sz J226 229 [(0, .ref (b + 130)), (1, .int (dz_i (j : Int))), (2, .int (dz_i (if put = true then 1 else 0))), (3, .int (dz_i (C.length : Int))), (4, .int (dz_i (240 * (j : Int) + (i2 : Int)))), (5, .int (dz_i (240 * (j : Int) + (m : Int)))), (6, .int (dz_i (240 * (j : Int) + (e : Int)))), (7, .int (dz_i (W - (sp_ind k (C.length : Int))))), (8, .int (dz_i nd))] []
                        refine dz_iinc (z := (C.length : Int) + 1) (ls' := [(0, .ref (b + 130)), (1, .int (dz_i (j : Int))), (2, .int (dz_i (if put = true then 1 else 0))), (3, .int (dz_i ((C.length : Int) + 1))), (4, .int (dz_i (240 * (j : Int) + (i2 : Int)))), (5, .int (dz_i (240 * (j : Int) + (m : Int)))), (6, .int (dz_i (240 * (j : Int) + (e : Int)))), (7, .int (dz_i (W - (sp_ind k (C.length : Int))))), (8, .int (dz_i nd))]) x.1 3 d_Model_lay_229 rfl hN (by decide) (by omega) rfl ?_
                        refine dz_goto (tgt := 59) x.1 d_Model_lay_232 (by decide) ?_
                        refine dz_take 7 (ls' := [(0, .ref (b + 130)), (1, .int (dz_i (j : Int))), (2, .int (dz_i (if put = true then 1 else 0))), (3, .int (dz_i ((C.length : Int) + 1))), (4, .int (dz_i (240 * (j : Int) + (i2 : Int)))), (5, .int (dz_i (240 * (j : Int) + (m : Int)))), (6, .int (dz_i (240 * (j : Int) + (e : Int))))]) rfl ?_
                        have h9 := ih2 i2 (C ++ [r2]) [] J226 (by omega) (by rw [if_pos rfl]; omega) (Or.inr (Or.inr ⟨by omega, rfl, hcut⟩)) FJ226 QJ226 RJ226
                        rw [eJ226] at h9
                        exact h9
                    · refine dz_aload_n x.1 0 d_Model_lay_183 rfl rfl ?_
                      refine dz_getr x.1 (ly_Model b) fl_Model_48 (lr_Model_20 b) d_Model_lay_184 ?_
                      refine dz_aload_n x.1 0 d_Model_lay_187 rfl rfl ?_
                      refine dz_geti (z := (r2.length : Int)) x.1 (ly_Model b) fl_Model_173 d_Model_lay_188 RJ2.1 ?_
                      refine dz_aload_n x.1 0 d_Model_lay_191 rfl rfl ?_
                      refine dz_getr x.1 (ly_Model b) fl_Model_39 (lr_Model_15 b) d_Model_lay_192 ?_
                      refine dz_iload x.1 4 d_Model_lay_195 rfl ?_
                      refine dz_iald (w := (h (i2 : Int))) x.1 (ly_MCells b) (by decide) (by omega) d_Model_lay_197 ((CI.fl FJ2).2.2 (i2 : Int) (by omega) (by omega)) ?_
                      refine dz_iast x.1 (ly_MRow b) (by decide) (by omega) d_Model_lay_198 ?_
                      refine dz_aload_n x.1 0 d_Model_lay_199 rfl rfl ?_
                      refine dz_dup x.1 d_Model_lay_200 rfl ?_
                      refine dz_geti (z := (r2.length : Int)) x.1 (ly_Model b) fl_Model_173 d_Model_lay_201 (by rw [dz_up_n _ _ _ (by omega)]; exact RJ2.1) ?_
                      refine dz_iconst x.1 d_Model_lay_204 ?_
                      refine dz_iadd (z := (r2.length : Int) + 1) x.1 d_Model_lay_205 (by omega) ?_
                      refine dz_puti x.1 (ly_Model b) fl_Model_173 fp_Model_19 d_Model_lay_206 ?_
                      refine dz_iinc (z := 240 * (j : Int) + (i2 : Int) + 1) (ls' := [(0, .ref (b + 130)), (1, .int (dz_i (j : Int))), (2, .int (dz_i (if put = true then 1 else 0))), (3, .int (dz_i (C.length : Int))), (4, .int (dz_i (240 * (j : Int) + (i2 : Int) + 1))), (5, .int (dz_i (240 * (j : Int) + (m : Int)))), (6, .int (dz_i (240 * (j : Int) + (e : Int)))), (7, .int (dz_i (W - (sp_ind k (C.length : Int))))), (8, .int (dz_i nd))]) x.1 4 d_Model_lay_209 rfl hN (by decide) (by omega) rfl ?_
                      refine dz_goto (tgt := 167) x.1 d_Model_lay_212 (by decide) ?_
                      have hnew : sp_fd W k h (i2 + 1) = (C, r2 ++ [h (i2 : Int)]) := by
                        rcases hff with hff | hff
                        · exact hff.2.2
                        · exact sp_fd_in hff.2.1 (hep.2.2.2.2.2 (i2 : Int) (by omega) (by omega)) (hep.2.2.2.2.2 ((i2 : Int) - 1) (by omega) (by omega)) (by omega)
                      have h9 := ih3 (i2 + 1) (r2 ++ [h (i2 : Int)]) _ (by omega) (Or.inr ⟨by omega, hnew, by simp only [List.length_append, List.length_cons, List.length_nil]; omega⟩) ((FJ2.row _ _).len _) ((QJ2.row _ _).len _) (RJ2.put (by omega) _)
                      rw [show ((i2 + 1 : Nat) : Int) = (i2 : Int) + 1 by omega, ← Int.add_assoc] at h9
                      exact h9
              refine dz_iload x.1 4 d_Model_lay_59 rfl ?_
              refine dz_iload x.1 6 d_Model_lay_61 rfl ?_
              refine dz_icmp_ge (tgt := 235) x.1 d_Model_lay_63 (by decide) (by omega) (by omega) (fun hc63 => by exfalso; omega) (fun hc63 => ?_)
              refine dz_aload_n x.1 0 d_Model_lay_66 rfl rfl ?_
              refine dz_geti (z := W) x.1 (ly_Model b) fl_Model_57 d_Model_lay_67 (LI.fl FJ).1.1 ?_
              refine dz_aload_n x.1 0 d_Model_lay_70 rfl rfl ?_
              refine dz_aload_n x.1 0 d_Model_lay_71 rfl rfl ?_
              refine dz_getr x.1 (ly_Model b) fl_Model_33 (lr_Model_13 b) d_Model_lay_72 ?_
              refine dz_iload_n x.1 1 d_Model_lay_75 rfl rfl ?_
              refine dz_iald (w := k) x.1 (ly_MBlockKind b) (by decide) (by omega) d_Model_lay_76 (LI.fl FJ).2.1 ?_
              refine dz_iload_n x.1 3 d_Model_lay_77 rfl rfl ?_
              refine ly_callV (rest := [.int (dz_i W)]) x cl_Model_185 (c_Model_indentOf l D Dt b sz J k (C.length : Int) (by omega) (by omega)) (by decide) (ly_Model b) rfl rfl rfl rfl (Nat.le_of_ble_eq_true rfl) d_Model_lay_78 (fun v I' hp78 => ?_)
              obtain ⟨rfl, hp78I⟩ := hp78
              have hp78I := hp78I.symm
              subst hp78I
              have hir := sp_ind_rng k (C.length : Int)
              show ly_V κ b sz J 81 [(0, .ref (b + 130)), (1, .int (dz_i (j : Int))), (2, .int (dz_i (if put = true then 1 else 0))), (3, .int (dz_i (C.length : Int))), (4, .int (dz_i (240 * (j : Int) + (i : Int)))), (5, .int (dz_i (240 * (j : Int) + (m : Int)))), (6, .int (dz_i (240 * (j : Int) + (e : Int))))] [.int (dz_i (sp_ind k (C.length : Int))), .int (dz_i W)]
              refine dz_isub (z := W - (sp_ind k (C.length : Int))) x.1 d_Model_lay_81 (by omega) ?_
              refine dz_istore (ls' := [(0, .ref (b + 130)), (1, .int (dz_i (j : Int))), (2, .int (dz_i (if put = true then 1 else 0))), (3, .int (dz_i (C.length : Int))), (4, .int (dz_i (240 * (j : Int) + (i : Int)))), (5, .int (dz_i (240 * (j : Int) + (m : Int)))), (6, .int (dz_i (240 * (j : Int) + (e : Int)))), (7, .int (dz_i (W - (sp_ind k (C.length : Int)))))]) x.1 d_Model_lay_82 hN (by decide) rfl ?_
              refine dz_aload_n x.1 0 d_Model_lay_84 rfl rfl ?_
              refine dz_geti (z := 0) x.1 (ly_Model b) fl_Model_173 d_Model_lay_85 R0 ?_
              refine dz_if_ne (tgt := 99) x.1 d_Model_lay_88 (by decide) (by omega) (fun hc88 => by exfalso; omega) (fun hc88 => ?_)
              refine dz_iload x.1 6 d_Model_lay_91 rfl ?_
              refine dz_iload x.1 4 d_Model_lay_93 rfl ?_
              refine dz_isub (z := (e : Int) - (i : Int)) x.1 d_Model_lay_95 (by omega) ?_
              refine dz_goto (tgt := 111) x.1 d_Model_lay_96 (by decide) ?_
              refine dz_istore (ls' := [(0, .ref (b + 130)), (1, .int (dz_i (j : Int))), (2, .int (dz_i (if put = true then 1 else 0))), (3, .int (dz_i (C.length : Int))), (4, .int (dz_i (240 * (j : Int) + (i : Int)))), (5, .int (dz_i (240 * (j : Int) + (m : Int)))), (6, .int (dz_i (240 * (j : Int) + (e : Int)))), (7, .int (dz_i (W - (sp_ind k (C.length : Int))))), (8, .int (dz_i ((e : Int) - (i : Int))))]) x.1 d_Model_lay_111 hN (by decide) rfl ?_
              refine dz_aload_n x.1 0 d_Model_lay_113 rfl rfl ?_
              refine dz_geti (z := 0) x.1 (ly_Model b) fl_Model_173 d_Model_lay_114 R0 ?_
              refine dz_if_le (tgt := 140) x.1 d_Model_lay_117 (by decide) (by omega) (fun hc117 => ?_) (fun hc117 => by exfalso; omega)
              refine dz_aload_n x.1 0 d_Model_lay_140 rfl rfl ?_
              refine dz_geti (z := 0) x.1 (ly_Model b) fl_Model_173 d_Model_lay_141 R0 ?_
              refine dz_if_le (tgt := 167) x.1 d_Model_lay_144 (by decide) (by omega) (fun hc144 => ?_) (fun hc144 => by exfalso; omega)
              exact loopf _ (e - i) i [] J (by omega) (Or.inl ⟨hie, by simp only [List.length_nil]; omega, hfi⟩) FJ QJ RJ
        have k59 : ly_V κ b sz J 59 [(0, .ref (b + 130)), (1, .int (dz_i (j : Int))), (2, .int (dz_i (if put = true then 1 else 0))), (3, .int (dz_i (C.length : Int))), (4, .int (dz_i (240 * (j : Int) + (a : Int)))), (5, .int (dz_i (240 * (j : Int) + (m : Int)))), (6, .int (dz_i (240 * (j : Int) + (e : Int))))] [] := by
          by_cases h0 : h (a : Int) = 0
          · have ea : (e : Int) = (a : Int) := hep.2.2.2.1 h0
            exact loop2 (2 * (e - a) + 1) a C r J (by omega) (by split <;> omega) (Or.inl ⟨by omega, by rw [show e = a by omega]; exact hfd⟩) FJ QJ RJ
          · have ea := hep.2.2.1 h0
            by_cases hrn : r = []
            · have hC0 := hb9.2.2.1 hrn
              have hnw := sp_fd_new hfd h0 hbd (fun z => z.1 hrn)
              rw [show sp_nl (C, r) = C from if_pos hrn] at hnw
              exact loop2 (2 * (e - a) + 1) a C r J (by omega) (by split <;> omega) (Or.inr (Or.inr ⟨by omega, hrn, hnw⟩)) FJ QJ RJ
            · exact loop2 (2 * (e - a) + 1) a C r J (by omega) (by split <;> omega) (Or.inr (Or.inl ⟨by omega, rfl, hrn, hfd⟩)) FJ QJ RJ
        have loopu : ∀ (k3 : Nat) (u : Nat), (a ≤ u ∧ u ≤ e ∧ e - u ≤ k3) → ly_V κ b sz J 36 [(0, .ref (b + 130)), (1, .int (dz_i (j : Int))), (2, .int (dz_i (if put = true then 1 else 0))), (3, .int (dz_i (C.length : Int))), (4, .int (dz_i (240 * (j : Int) + (a : Int)))), (5, .int (dz_i (240 * (j : Int) + (m : Int)))), (6, .int (dz_i (240 * (j : Int) + (u : Int))))] [] := by
          intro k3
          induction k3 with
          | zero =>
            intro u hu
            refine dz_iload x.1 6 d_Model_lay_36 rfl ?_
            refine dz_iload x.1 5 d_Model_lay_38 rfl ?_
            refine dz_icmp_ge (tgt := 59) x.1 d_Model_lay_40 (by decide) (by omega) (by omega) (fun hc40 => ?_) (fun hc40 => ?_)
            · have eu : u = e := by
                by_cases z : u < e
                · exfalso
                  have := hep.2.2.2.2.2 (u : Int) (by omega) (by omega)
                  omega
                · omega
              subst eu
              exact k59
            · have hhu := CI.1.2.2 (u : Int)
              refine dz_aload_n x.1 0 d_Model_lay_43 rfl rfl ?_
              refine dz_getr x.1 (ly_Model b) fl_Model_39 (lr_Model_15 b) d_Model_lay_44 ?_
              refine dz_iload x.1 6 d_Model_lay_47 rfl ?_
              refine dz_iald (w := (h (u : Int))) x.1 (ly_MCells b) (by decide) (by omega) d_Model_lay_49 ((CI.fl FJ).2.2 (u : Int) (by omega) (by omega)) ?_
              refine dz_if_eq (tgt := 59) x.1 d_Model_lay_50 (by decide) (by omega) (fun hc50 => ?_) (fun hc50 => ?_)
              · have eu : u = e := by
                  by_cases z : u < e
                  · exfalso
                    have := hep.2.2.2.2.2 (u : Int) (by omega) (by omega)
                    omega
                  · omega
                subst eu
                exact k59
              · refine dz_iinc (z := 240 * (j : Int) + (u : Int) + 1) (ls' := [(0, .ref (b + 130)), (1, .int (dz_i (j : Int))), (2, .int (dz_i (if put = true then 1 else 0))), (3, .int (dz_i (C.length : Int))), (4, .int (dz_i (240 * (j : Int) + (a : Int)))), (5, .int (dz_i (240 * (j : Int) + (m : Int)))), (6, .int (dz_i (240 * (j : Int) + (u : Int) + 1)))]) x.1 6 d_Model_lay_53 rfl hN (by decide) (by omega) rfl ?_
                refine dz_goto (tgt := 36) x.1 d_Model_lay_56 (by decide) ?_
                exfalso
                have eu : u = e := by omega
                subst eu
                exact hc50 hep.2.2.2.2.1
          | succ k3 ih3 =>
            intro u hu
            refine dz_iload x.1 6 d_Model_lay_36 rfl ?_
            refine dz_iload x.1 5 d_Model_lay_38 rfl ?_
            refine dz_icmp_ge (tgt := 59) x.1 d_Model_lay_40 (by decide) (by omega) (by omega) (fun hc40 => ?_) (fun hc40 => ?_)
            · have eu : u = e := by
                by_cases z : u < e
                · exfalso
                  have := hep.2.2.2.2.2 (u : Int) (by omega) (by omega)
                  omega
                · omega
              subst eu
              exact k59
            · have hhu := CI.1.2.2 (u : Int)
              refine dz_aload_n x.1 0 d_Model_lay_43 rfl rfl ?_
              refine dz_getr x.1 (ly_Model b) fl_Model_39 (lr_Model_15 b) d_Model_lay_44 ?_
              refine dz_iload x.1 6 d_Model_lay_47 rfl ?_
              refine dz_iald (w := (h (u : Int))) x.1 (ly_MCells b) (by decide) (by omega) d_Model_lay_49 ((CI.fl FJ).2.2 (u : Int) (by omega) (by omega)) ?_
              refine dz_if_eq (tgt := 59) x.1 d_Model_lay_50 (by decide) (by omega) (fun hc50 => ?_) (fun hc50 => ?_)
              · have eu : u = e := by
                  by_cases z : u < e
                  · exfalso
                    have := hep.2.2.2.2.2 (u : Int) (by omega) (by omega)
                    omega
                  · omega
                subst eu
                exact k59
              · refine dz_iinc (z := 240 * (j : Int) + (u : Int) + 1) (ls' := [(0, .ref (b + 130)), (1, .int (dz_i (j : Int))), (2, .int (dz_i (if put = true then 1 else 0))), (3, .int (dz_i (C.length : Int))), (4, .int (dz_i (240 * (j : Int) + (a : Int)))), (5, .int (dz_i (240 * (j : Int) + (m : Int)))), (6, .int (dz_i (240 * (j : Int) + (u : Int) + 1)))]) x.1 6 d_Model_lay_53 rfl hN (by decide) (by omega) rfl ?_
                refine dz_goto (tgt := 36) x.1 d_Model_lay_56 (by decide) ?_
                have h9 := ih3 (u + 1) (by have : ¬ u = e := (fun z => hc50 (by rw [z]; exact hep.2.2.2.2.1)); omega)
                rw [show ((u + 1 : Nat) : Int) = (u : Int) + 1 by omega, ← Int.add_assoc] at h9
                exact h9
        refine dz_iload x.1 4 d_Model_lay_25 rfl ?_
        refine dz_iload x.1 5 d_Model_lay_27 rfl ?_
        refine dz_icmp_ge (tgt := 241) x.1 d_Model_lay_29 (by decide) (by omega) (by omega) (fun hc29 => by exfalso; omega) (fun hc29 => ?_)
        refine dz_iload x.1 4 d_Model_lay_32 rfl ?_
        refine dz_istore (ls' := [(0, .ref (b + 130)), (1, .int (dz_i (j : Int))), (2, .int (dz_i (if put = true then 1 else 0))), (3, .int (dz_i (C.length : Int))), (4, .int (dz_i (240 * (j : Int) + (a : Int)))), (5, .int (dz_i (240 * (j : Int) + (m : Int)))), (6, .int (dz_i (240 * (j : Int) + (a : Int))))]) x.1 d_Model_lay_34 hN (by decide) rfl ?_
        exact loopu (e - a) a (by omega)
      · have ham2 : m ≤ a := by omega
        have hfm : sp_fd W k h m = (C, r) := by
          by_cases z : a = m
          · rw [← z]; exact hfd
          · rw [show a = m + 1 by omega, sp_fd_0 (CI.1.2.1 _ (by omega))] at hfd; exact hfd
        refine dz_iload x.1 4 d_Model_lay_25 rfl ?_
        refine dz_iload x.1 5 d_Model_lay_27 rfl ?_
        refine dz_icmp_ge (tgt := 241) x.1 d_Model_lay_29 (by decide) (by omega) (by omega) (fun hc29 => ?_) (fun hc29 => by exfalso; omega)
        exact k241 C r a J hfm FJ QJ RJ
  show ly_V κ b sz I 0 [(0, .ref (b + 130)), (1, .int (dz_i (j : Int))), (2, .int (dz_i (if put = true then 1 else 0)))] []
  refine dz_iconst x.1 d_Model_lay_0 ?_
  refine dz_istore_n (ls' := [(0, .ref (b + 130)), (1, .int (dz_i (j : Int))), (2, .int (dz_i (if put = true then 1 else 0))), (3, .int (dz_i 0))]) x.1 d_Model_lay_1 rfl hN (by decide) rfl ?_
  refine dz_aload_n x.1 0 d_Model_lay_2 rfl rfl ?_
  refine dz_iconst x.1 d_Model_lay_3 ?_
  refine dz_puti x.1 (ly_Model b) fl_Model_173 fp_Model_19 d_Model_lay_4 ?_
  refine dz_sipush x.1 d_Model_lay_7 (by decide) ?_
  refine dz_iload_n x.1 1 d_Model_lay_10 rfl rfl ?_
  refine dz_imul (z := 240 * (j : Int)) x.1 d_Model_lay_11 (by omega) ?_
  refine dz_istore (ls' := [(0, .ref (b + 130)), (1, .int (dz_i (j : Int))), (2, .int (dz_i (if put = true then 1 else 0))), (3, .int (dz_i 0)), (4, .int (dz_i (240 * (j : Int))))]) x.1 d_Model_lay_12 hN (by decide) rfl ?_
  refine dz_iload x.1 4 d_Model_lay_14 rfl ?_
  refine dz_aload_n x.1 0 d_Model_lay_16 rfl rfl ?_
  refine dz_getr x.1 (ly_Model b) fl_Model_36 (lr_Model_14 b) d_Model_lay_17 ?_
  refine dz_iload_n x.1 1 d_Model_lay_20 rfl rfl ?_
  refine dz_iald (w := (m : Int)) x.1 (ly_MSizes b) (by decide) (by omega) d_Model_lay_21 (by rw [dz_up_n _ _ _ (by omega)]; exact hsz) ?_
  refine dz_iadd (z := 240 * (j : Int) + (m : Int)) x.1 d_Model_lay_22 (by omega) ?_
  refine dz_istore (ls' := [(0, .ref (b + 130)), (1, .int (dz_i (j : Int))), (2, .int (dz_i (if put = true then 1 else 0))), (3, .int (dz_i 0)), (4, .int (dz_i (240 * (j : Int)))), (5, .int (dz_i (240 * (j : Int) + (m : Int))))]) x.1 d_Model_lay_23 hN (by decide) rfl ?_
  have h9 := loop (m + 1) 0 [] [] _ (by omega) (by rw [show ((0 : Nat) : Int) - 1 = -1 by omega]; exact hh0) rfl (sp_fl.rf.len 0) (QI.len 0) (sp_rw_0 (dz_up_s _ _ _ _))
  rw [show 240 * (j : Int) + ((0 : Nat) : Int) = 240 * (j : Int) by omega] at h9
  exact h9
