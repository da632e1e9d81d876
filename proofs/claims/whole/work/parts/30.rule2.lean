/-- a block's cells: m of them, seen as h -/
def sp_B (b i : Nat) (J : dz_Hp) (m : Int) (h : Int → Int) : Prop := J (b + (82 + 4 * i)) 2 = m ∧ (0 ≤ m ∧ m ≤ 200) ∧ (∀ j : Int, 0 ≤ j → j < m → 0 ≤ J (b + (83 + 4 * i)) j ∧ J (b + (83 + 4 * i)) j < 2147483648) ∧ sp_ca (J (b + (83 + 4 * i))) m = h
theorem sp_B.rng {b i : Nat} {J : dz_Hp} {m : Int} {h : Int → Int} (H : sp_B b i J m h) (j : Int) : 0 ≤ h j ∧ h j < 64 := by rw [← H.2.2.2]; exact sp_ca_rng _ _ _
theorem sp_B.out {b i : Nat} {J : dz_Hp} {m : Int} {h : Int → Int} (H : sp_B b i J m h) {j : Int} (hj : j < 0 ∨ m ≤ j) : h j = 0 := by rw [← H.2.2.2]; unfold sp_ca; rw [if_neg (by omega)]
theorem sp_B.fr {b i : Nat} {I J : dz_Hp} {m : Int} {h : Int → Int} (H : sp_B b i I m h) (h1 : J (b + (82 + 4 * i)) = I (b + (82 + 4 * i))) (h2 : J (b + (83 + 4 * i)) = I (b + (83 + 4 * i))) : sp_B b i J m h := by
  unfold sp_B; rw [h1, h2]; exact H
theorem c_caAt (l : Launch) (D : va_G) (Dt : Nat → ClassId) (b sz : Nat) (I : dz_Hp) (i : Nat) (hi : i < 12) (m : Int) (h : Int → Int) (H : sp_B b i I m h) (j : Int) (hj : -2147483648 ≤ j ∧ j < 2147483648) : ly_M l D Dt b sz y_Block_cellAt b_Block_cellAt 2 (some .int) 1 [.ref (b + (82 + 4 * i)), .int (dz_i j)] I (fun v I' => v = some (.int (dz_i (h j))) ∧ I' = I) := by
  have := c_Block_cellAt l D Dt b sz I i hi m H.1 H.2.1 H.2.2.1 j hj
  rw [H.2.2.2] at this
  exact this
def sp_hl (g : Int → Int) (p : Int) (a : Bool) (u : sp_Ru) : Int → Bool := fun j => decide ((if a = true ∨ j = 0 then sp_small (g (p + j)) else g (p + j)) = sp_lt u j)
def sp_hc (h : Int → Int) (p : Int) (u : sp_Ru) : Int → Bool := fun j => decide (h (p + j) = sp_ce u j)
def sp_like (u w : sp_Ru) : Bool := decide (sp_k u = sp_k w ∧ sp_ln u = sp_ln w) && sp_all (fun j => decide (sp_lt u j = sp_lt w j)) (sp_ln u).toNat
theorem sp_small_rng {c : Int} (h : 0 ≤ c ∧ c ≤ 126) : 0 ≤ sp_small c ∧ sp_small c ≤ 126 := by unfold sp_small; split <;> omega
theorem sp_bt {B : Bool} (h : B = true) : (if B = true then (1 : Int) else 0) = 1 := if_pos h
theorem sp_bf {B : Bool} (h : B = false) : (if B = true then (1 : Int) else 0) = 0 := by rw [h]; rfl
set_option maxRecDepth 100000 in
set_option maxHeartbeats 4000000 in
theorem c_Rule_readFrom (l : Launch) (D : va_G) (Dt : Nat → ClassId) (b sz : Nat) (I : dz_Hp) (r : Nat) (hr : r < 24) (n : Int) (g : Int → Int) (TI : sp_T b I n g) (f0 t0 : Int) (hf : 0 ≤ f0 ∧ f0 < 200) (ht : 0 ≤ t0 ∧ t0 < 200) : ly_M l D Dt b sz y_Rule_readFrom b_Rule_readFrom 5 (some .boolean) 5 [.ref (b + (5 + 3 * r)), .ref (b + 1), .int (dz_i f0), .int (dz_i t0)] I (fun v I' => v = some (.int (dz_i (if (sp_parse g f0 t0).isSome = true then 1 else 0))) ∧ sp_fr I I' (fun q => q = b + (5 + 3 * r) ∨ q = b + (6 + 3 * r) ∨ q = b + (7 + 3 * r)) ∧ ∀ u, sp_parse g f0 t0 = some u → sp_rl b r I' u) := by
  refine ly_enter R_Rule (by decide) rfl (Nat.le_of_ble_eq_true rfl) (ly_cat _ 0 rfl) (fun κ x => ?_)
  have hN := ly_N x
  have hix := sp_ix_rng 0 (g f0)
  show ly_V κ b sz I 0 [(0, .ref (b + (5 + 3 * r))), (1, .ref (b + 1)), (2, .int (dz_i f0)), (3, .int (dz_i t0))] []
  refine dz_aload_n x.1 0 d_Rule_readFrom_0 rfl rfl ?_
  refine ly_ldc0 x d_Rule_readFrom_1 ?_
  show ly_V κ b sz I 3 [(0, .ref (b + (5 + 3 * r))), (1, .ref (b + 1)), (2, .int (dz_i f0)), (3, .int (dz_i t0))] [.ref (Dt (100 + 0)), .ref (b + (5 + 3 * r))]
  refine dz_aload_n x.1 1 d_Rule_readFrom_3 rfl rfl ?_
  refine dz_iload_n x.1 2 d_Rule_readFrom_4 rfl rfl ?_
  refine ly_callV (rest := [.ref (Dt (100 + 0)), .ref (b + (5 + 3 * r))]) x cl_Rule_21 (c_chAt l D Dt b sz I n g TI f0 (by omega)) (by decide) (ly_Typed b) rfl rfl rfl rfl (Nat.le_of_ble_eq_true rfl) d_Rule_readFrom_5 (fun v I' hp5 => ?_)
  obtain ⟨rfl, hp5I⟩ := hp5
  have hp5I := hp5I.symm
  subst hp5I
  have hhp5 := TI.rng f0
  show ly_V κ b sz I 8 [(0, .ref (b + (5 + 3 * r))), (1, .ref (b + 1)), (2, .int (dz_i f0)), (3, .int (dz_i t0))] [.int (dz_i (g f0)), .ref (Dt (100 + 0)), .ref (b + (5 + 3 * r))]
  refine ly_callT (i := 0) (rest := [.ref (b + (5 + 3 * r))]) x cl_Rule_27 (by decide) (c_JStr_indexOf_0 l D Dt b sz I (g f0) (by omega)) (by decide) rfl rfl rfl (Nat.le_of_ble_eq_true rfl) d_Rule_readFrom_8 (fun v I' hp8 => ?_)
  obtain ⟨rfl, hp8I⟩ := hp8
  have hp8I := hp8I.symm
  subst hp8I
  show ly_V κ b sz I 11 [(0, .ref (b + (5 + 3 * r))), (1, .ref (b + 1)), (2, .int (dz_i f0)), (3, .int (dz_i t0))] [.int (dz_i (sp_ix 0 (g f0))), .ref (b + (5 + 3 * r))]
  refine dz_puti x.1 (ly_Rule b hr) fl_Rule_33 fp_Rule_0 d_Rule_readFrom_11 ?_
  refine dz_aload_n x.1 0 d_Rule_readFrom_14 rfl rfl ?_
  refine dz_geti (z := (sp_ix 0 (g f0))) x.1 (ly_Rule b hr) fl_Rule_33 d_Rule_readFrom_15 (dz_up_s _ _ _ _) ?_
  refine dz_if_lt (tgt := 33) x.1 d_Rule_readFrom_18 (by decide) (by omega) (fun hc18 => ?_) (fun hc18 => ?_)
  · refine dz_iconst x.1 d_Rule_readFrom_33 ?_
    have hN9 : sp_parse g f0 t0 = none := by unfold sp_parse; rw [if_pos (by omega)]
    exact ly_iret x d_Rule_readFrom_34 (dz_nbo (by omega)) ⟨by rw [hN9]; rfl, ((sp_fr.rf (P := (fun q => q = b + (5 + 3 * r) ∨ q = b + (6 + 3 * r) ∨ q = b + (7 + 3 * r)))).up (Or.inl rfl)), fun u h9 => by rw [hN9] at h9; cases h9⟩
  · refine dz_aload_n x.1 1 d_Rule_readFrom_21 rfl rfl ?_
    refine dz_iload_n x.1 2 d_Rule_readFrom_22 rfl rfl ?_
    refine dz_iconst x.1 d_Rule_readFrom_23 ?_
    refine dz_iadd (z := f0 + 1) x.1 d_Rule_readFrom_24 (by omega) ?_
    refine ly_callV (rest := []) x cl_Rule_21 (c_chAt l D Dt b sz (dz_up I (b + (5 + 3 * r)) 0 (sp_ix 0 (g f0))) n g (TI.fr (by (repeat rw [dz_up_n _ _ _ (by omega)])) (by (repeat rw [dz_up_n _ _ _ (by omega)]))) (f0 + 1) (by omega)) (by decide) (ly_Typed b) rfl rfl rfl rfl (Nat.le_of_ble_eq_true rfl) d_Rule_readFrom_25 (fun v I' hp25 => ?_)
    obtain ⟨rfl, hp25I⟩ := hp25
    have hp25I := hp25I.symm
    subst hp25I
    have hhp25 := TI.rng (f0 + 1)
    show ly_V κ b sz (dz_up I (b + (5 + 3 * r)) 0 (sp_ix 0 (g f0))) 28 [(0, .ref (b + (5 + 3 * r))), (1, .ref (b + 1)), (2, .int (dz_i f0)), (3, .int (dz_i t0))] [.int (dz_i (g (f0 + 1)))]
    refine dz_bipush x.1 d_Rule_readFrom_28 (by decide) ?_
    refine dz_icmp_eq (tgt := 35) x.1 d_Rule_readFrom_30 (by decide) (by omega) (by omega) (fun hc30 => ?_) (fun hc30 => ?_)
    · refine dz_aload_n x.1 0 d_Rule_readFrom_35 rfl rfl ?_
      refine dz_aload_n x.1 1 d_Rule_readFrom_36 rfl rfl ?_
      refine dz_iload_n x.1 2 d_Rule_readFrom_37 rfl rfl ?_
      refine dz_iconst x.1 d_Rule_readFrom_38 ?_
      refine dz_iadd (z := f0 + 2) x.1 d_Rule_readFrom_39 (by omega) ?_
      refine ly_callV (rest := []) x cl_Rule_37 (c_Rule_readLetters l D Dt b sz (dz_up I (b + (5 + 3 * r)) 0 (sp_ix 0 (g f0))) r hr n g (TI.fr (by (repeat rw [dz_up_n _ _ _ (by omega)])) (by (repeat rw [dz_up_n _ _ _ (by omega)]))) (f0 + 2) (by omega)) (by decide) (ly_Rule b hr) rfl rfl rfl rfl (Nat.le_of_ble_eq_true rfl) d_Rule_readFrom_40 (fun v J hp40 => ?_)
      obtain ⟨rfl, hF1, hA1, hL1, hT1⟩ := hp40
      have TJ : sp_T b J n g := (TI.fr (by (repeat rw [dz_up_n _ _ _ (by omega)])) (by (repeat rw [dz_up_n _ _ _ (by omega)]))).fr (hF1 _ (fun h => by rcases h with h | h <;> omega)) (hF1 _ (fun h => by rcases h with h | h <;> omega))
      have hR1 := (sp_run_spec (sp_sm g (f0 + 2)) 6 0).1
      have hR2 := (sp_run_spec (sp_sm g (f0 + 2)) 6 0).2.1
      show ly_V κ b sz J 43 [(0, .ref (b + (5 + 3 * r))), (1, .ref (b + 1)), (2, .int (dz_i f0)), (3, .int (dz_i t0))] []
      refine dz_iload_n x.1 2 d_Rule_readFrom_43 rfl rfl ?_
      refine dz_iconst x.1 d_Rule_readFrom_44 ?_
      refine dz_iadd (z := f0 + 2) x.1 d_Rule_readFrom_45 (by omega) ?_
      refine dz_aload_n x.1 0 d_Rule_readFrom_46 rfl rfl ?_
      refine dz_geti (z := (sp_run (sp_sm g (f0 + 2)) 0 6)) x.1 (ly_Rule b hr) fl_Rule_41 d_Rule_readFrom_47 hL1 ?_
      refine dz_iadd (z := f0 + (sp_run (sp_sm g (f0 + 2)) 0 6) + 2) x.1 d_Rule_readFrom_50 (by omega) ?_
      refine dz_istore (ls' := [(0, .ref (b + (5 + 3 * r))), (1, .ref (b + 1)), (2, .int (dz_i f0)), (3, .int (dz_i t0)), (4, .int (dz_i (f0 + (sp_run (sp_sm g (f0 + 2)) 0 6) + 2)))]) x.1 d_Rule_readFrom_51 hN (by decide) rfl ?_
      refine dz_aload_n x.1 0 d_Rule_readFrom_53 rfl rfl ?_
      refine dz_geti (z := (sp_run (sp_sm g (f0 + 2)) 0 6)) x.1 (ly_Rule b hr) fl_Rule_41 d_Rule_readFrom_54 hL1 ?_
      refine dz_iconst x.1 d_Rule_readFrom_57 ?_
      refine dz_icmp_lt (tgt := 89) x.1 d_Rule_readFrom_58 (by decide) (by omega) (by omega) (fun hc58 => ?_) (fun hc58 => ?_)
      · refine dz_iconst x.1 d_Rule_readFrom_89 ?_
        have hN9 : sp_parse g f0 t0 = none := by unfold sp_parse; rw [if_neg (by omega), if_pos (by omega)]
        exact ly_iret x d_Rule_readFrom_90 (dz_nbo (by omega)) ⟨by rw [hN9]; rfl, (((sp_fr.rf (P := (fun q => q = b + (5 + 3 * r) ∨ q = b + (6 + 3 * r) ∨ q = b + (7 + 3 * r)))).up (Or.inl rfl)).tr hF1 (fun q h => by rcases h with h | h; exact Or.inl h; exact Or.inr (Or.inl h))), fun u h9 => by rw [hN9] at h9; cases h9⟩
      · refine dz_aload_n x.1 1 d_Rule_readFrom_61 rfl rfl ?_
        refine dz_iload x.1 4 d_Rule_readFrom_62 rfl ?_
        refine ly_callV (rest := []) x cl_Rule_21 (c_chAt l D Dt b sz J n g TJ (f0 + (sp_run (sp_sm g (f0 + 2)) 0 6) + 2) (by omega)) (by decide) (ly_Typed b) rfl rfl rfl rfl (Nat.le_of_ble_eq_true rfl) d_Rule_readFrom_64 (fun v I' hp64 => ?_)
        obtain ⟨rfl, hp64I⟩ := hp64
        have hp64I := hp64I.symm
        subst hp64I
        have hhp64 := TJ.rng (f0 + (sp_run (sp_sm g (f0 + 2)) 0 6) + 2)
        show ly_V κ b sz J 67 [(0, .ref (b + (5 + 3 * r))), (1, .ref (b + 1)), (2, .int (dz_i f0)), (3, .int (dz_i t0)), (4, .int (dz_i (f0 + (sp_run (sp_sm g (f0 + 2)) 0 6) + 2)))] [.int (dz_i (g (f0 + (sp_run (sp_sm g (f0 + 2)) 0 6) + 2)))]
        refine dz_bipush x.1 d_Rule_readFrom_67 (by decide) ?_
        refine dz_icmp_ne (tgt := 89) x.1 d_Rule_readFrom_69 (by decide) (by omega) (by omega) (fun hc69 => ?_) (fun hc69 => ?_)
        · refine dz_iconst x.1 d_Rule_readFrom_89 ?_
          have hN9 : sp_parse g f0 t0 = none := by unfold sp_parse; rw [if_neg (by omega), if_pos (by omega)]
          exact ly_iret x d_Rule_readFrom_90 (dz_nbo (by omega)) ⟨by rw [hN9]; rfl, (((sp_fr.rf (P := (fun q => q = b + (5 + 3 * r) ∨ q = b + (6 + 3 * r) ∨ q = b + (7 + 3 * r)))).up (Or.inl rfl)).tr hF1 (fun q h => by rcases h with h | h; exact Or.inl h; exact Or.inr (Or.inl h))), fun u h9 => by rw [hN9] at h9; cases h9⟩
        · refine dz_aload_n x.1 0 d_Rule_readFrom_72 rfl rfl ?_
          refine dz_aload_n x.1 1 d_Rule_readFrom_73 rfl rfl ?_
          refine dz_iload x.1 4 d_Rule_readFrom_74 rfl ?_
          refine dz_iconst x.1 d_Rule_readFrom_76 ?_
          refine dz_iadd (z := f0 + (sp_run (sp_sm g (f0 + 2)) 0 6) + 3) x.1 d_Rule_readFrom_77 (by omega) ?_
          refine dz_iload_n x.1 3 d_Rule_readFrom_78 rfl rfl ?_
          refine ly_callV (rest := []) x cl_Rule_44 (c_Rule_readCells l D Dt b sz J r hr n g TJ (f0 + (sp_run (sp_sm g (f0 + 2)) 0 6) + 3) t0 (by omega) (by omega)) (by decide) (ly_Rule b hr) rfl rfl rfl rfl (Nat.le_of_ble_eq_true rfl) d_Rule_readFrom_79 (fun v J2 hp79 => ?_)
          obtain ⟨rfl, hF2, hA2, hC2⟩ := hp79
          show ly_V κ b sz J2 82 [(0, .ref (b + (5 + 3 * r))), (1, .ref (b + 1)), (2, .int (dz_i f0)), (3, .int (dz_i t0)), (4, .int (dz_i (f0 + (sp_run (sp_sm g (f0 + 2)) 0 6) + 2)))] [.int (dz_i (if (sp_rc g (t0 - (f0 + (sp_run (sp_sm g (f0 + 2)) 0 6) + 3)).toNat (f0 + (sp_run (sp_sm g (f0 + 2)) 0 6) + 3) 0 0 (fun _ => 0)).isSome = true then 1 else 0))]
          refine dz_if_eq (tgt := 89) x.1 d_Rule_readFrom_82 (by decide) (dz_br _) (fun hc82 => ?_) (fun hc82 => ?_)
          · have hc82 : ¬ ((sp_rc g (t0 - (f0 + (sp_run (sp_sm g (f0 + 2)) 0 6) + 3)).toNat (f0 + (sp_run (sp_sm g (f0 + 2)) 0 6) + 3) 0 0 (fun _ => 0)).isSome = true) := dz_bf hc82
            refine dz_iconst x.1 d_Rule_readFrom_89 ?_
            have hN9 : sp_parse g f0 t0 = none := by unfold sp_parse; rw [if_neg (by omega), if_neg (by omega), Option.not_isSome_iff_eq_none.mp hc82]
            exact ly_iret x d_Rule_readFrom_90 (dz_nbo (by omega)) ⟨by rw [hN9]; rfl, ((((sp_fr.rf (P := (fun q => q = b + (5 + 3 * r) ∨ q = b + (6 + 3 * r) ∨ q = b + (7 + 3 * r)))).up (Or.inl rfl)).tr hF1 (fun q h => by rcases h with h | h; exact Or.inl h; exact Or.inr (Or.inl h))).tr hF2 (fun q h => by rcases h with h | h; exact Or.inl h; exact Or.inr (Or.inr h))), fun u h9 => by rw [hN9] at h9; cases h9⟩
          · have hc82 : (sp_rc g (t0 - (f0 + (sp_run (sp_sm g (f0 + 2)) 0 6) + 3)).toNat (f0 + (sp_run (sp_sm g (f0 + 2)) 0 6) + 3) 0 0 (fun _ => 0)).isSome = true := dz_bt hc82
            refine dz_iconst x.1 d_Rule_readFrom_85 ?_
            refine dz_goto (tgt := 90) x.1 d_Rule_readFrom_86 (by decide) ?_
            obtain ⟨y9, hy9⟩ := Option.isSome_iff_exists.mp hc82
            obtain ⟨cn9, F9⟩ := y9
            have hN9 : sp_parse g f0 t0 = some (sp_ix 0 (g f0), sp_run (sp_sm g (f0 + 2)) 0 6, cn9, (fun j => g (f0 + 2 + j)), F9) := by unfold sp_parse; rw [if_neg (by omega), if_neg (by omega), hy9]
            exact ly_iret x d_Rule_readFrom_90 (dz_nbo (by omega)) ⟨by rw [hN9]; rfl, ((((sp_fr.rf (P := (fun q => q = b + (5 + 3 * r) ∨ q = b + (6 + 3 * r) ∨ q = b + (7 + 3 * r)))).up (Or.inl rfl)).tr hF1 (fun q h => by rcases h with h | h; exact Or.inl h; exact Or.inr (Or.inl h))).tr hF2 (fun q h => by rcases h with h | h; exact Or.inl h; exact Or.inr (Or.inr h))), fun u h9 => by
          rw [hN9] at h9; cases h9
          refine ⟨?_, ?_, (hC2 _ _ hy9).1, fun j h1 h2 => ?_, (hC2 _ _ hy9).2⟩
          · show J2 (b + (5 + 3 * r)) 0 = sp_ix 0 (g f0); rw [hA2 0 (by decide), hA1 0 (by decide), dz_up_s]
          · show J2 (b + (5 + 3 * r)) 2 = _; rw [hA2 2 (by decide)]; exact hL1
          · show J2 (b + (6 + 3 * r)) j = g (f0 + 2 + j); rw [hF2 _ (fun h => by rcases h with h | h <;> omega)]; exact hT1 j h1 h2⟩
    · refine dz_iconst x.1 d_Rule_readFrom_33 ?_
      have hN9 : sp_parse g f0 t0 = none := by unfold sp_parse; rw [if_pos (by omega)]
      exact ly_iret x d_Rule_readFrom_34 (dz_nbo (by omega)) ⟨by rw [hN9]; rfl, ((sp_fr.rf (P := (fun q => q = b + (5 + 3 * r) ∨ q = b + (6 + 3 * r) ∨ q = b + (7 + 3 * r)))).up (Or.inl rfl)), fun u h9 => by rw [hN9] at h9; cases h9⟩
set_option maxRecDepth 100000 in
set_option maxHeartbeats 4000000 in
theorem c_Rule_applies (l : Launch) (D : va_G) (Dt : Nat → ClassId) (b sz : Nat) (I : dz_Hp) (r : Nat) (hr : r < 24) (u : sp_Ru) (hu : sp_rl b r I u) (hw : sp_rwf u) (f la : Bool) : ly_M l D Dt b sz y_Rule_applies b_Rule_applies 3 (some .boolean) 1 [.ref (b + (5 + 3 * r)), .int (dz_i (if f = true then 1 else 0)), .int (dz_i (if la = true then 1 else 0))] I (fun v I' => v = some (.int (dz_i (if sp_app (sp_k u) f la = true then 1 else 0))) ∧ I' = I) := by
  refine ly_enter R_Rule (by decide) rfl (Nat.le_of_ble_eq_true rfl) (ly_cat _ 0 rfl) (fun κ x => ?_)
  have hN := ly_N x
  have hw0 := hw.1
  have hw1 := hw.2.1
  have hw2 := hw.2.2.1
  show ly_V κ b sz I 0 [(0, .ref (b + (5 + 3 * r))), (1, .int (dz_i (if f = true then 1 else 0))), (2, .int (dz_i (if la = true then 1 else 0)))] []
  refine dz_aload_n x.1 0 d_Rule_applies_0 rfl rfl ?_
  refine dz_geti (z := (sp_k u)) x.1 (ly_Rule b hr) fl_Rule_33 d_Rule_applies_1 hu.1 ?_
  rcases (by omega : (sp_k u) = 0 ∨ (sp_k u) = 1 ∨ (sp_k u) = 2 ∨ (sp_k u) = 3 ∨ ((sp_k u) < 0 ∨ 3 < (sp_k u))) with hs4 | hs4 | hs4 | hs4 | hs4
  · refine dz_tableIn (off := 32) (tgt := 36) x.1 d_Rule_applies_4 (by omega) (by omega) (by rw [hs4]; rfl) (by decide) ?_
    refine dz_iload_n x.1 1 d_Rule_applies_36 rfl rfl ?_
    refine dz_if_eq (tgt := 48) x.1 d_Rule_applies_37 (by decide) (dz_br _) (fun hc37 => ?_) (fun hc37 => ?_)
    · have hc37 : ¬ (f = true) := dz_bf hc37
      refine dz_iconst x.1 d_Rule_applies_48 ?_
      have hN9 : sp_app (sp_k u) f la = false := by unfold sp_app; (repeat (first | rw [if_pos (by omega)] | rw [if_neg (by omega)])) <;> simp_all
      exact ly_iret x d_Rule_applies_49 (dz_nbo (by omega)) ⟨by rw [hN9]; rfl, rfl⟩
    · have hc37 : f = true := dz_bt hc37
      refine dz_iload_n x.1 2 d_Rule_applies_40 rfl rfl ?_
      refine dz_if_eq (tgt := 48) x.1 d_Rule_applies_41 (by decide) (dz_br _) (fun hc41 => ?_) (fun hc41 => ?_)
      · have hc41 : ¬ (la = true) := dz_bf hc41
        refine dz_iconst x.1 d_Rule_applies_48 ?_
        have hN9 : sp_app (sp_k u) f la = false := by unfold sp_app; (repeat (first | rw [if_pos (by omega)] | rw [if_neg (by omega)])) <;> simp_all
        exact ly_iret x d_Rule_applies_49 (dz_nbo (by omega)) ⟨by rw [hN9]; rfl, rfl⟩
      · have hc41 : la = true := dz_bt hc41
        refine dz_iconst x.1 d_Rule_applies_44 ?_
        refine dz_goto (tgt := 49) x.1 d_Rule_applies_45 (by decide) ?_
        have hN9 : sp_app (sp_k u) f la = true := by unfold sp_app; (repeat (first | rw [if_pos (by omega)] | rw [if_neg (by omega)])) <;> simp_all
        exact ly_iret x d_Rule_applies_49 (dz_nbo (by omega)) ⟨by rw [hN9]; rfl, rfl⟩
  · refine dz_tableIn (off := 46) (tgt := 50) x.1 d_Rule_applies_4 (by omega) (by omega) (by rw [hs4]; rfl) (by decide) ?_
    refine dz_iload_n x.1 1 d_Rule_applies_50 rfl rfl ?_
    refine dz_if_eq (tgt := 62) x.1 d_Rule_applies_51 (by decide) (dz_br _) (fun hc51 => ?_) (fun hc51 => ?_)
    · have hc51 : ¬ (f = true) := dz_bf hc51
      refine dz_iconst x.1 d_Rule_applies_62 ?_
      have hN9 : sp_app (sp_k u) f la = false := by unfold sp_app; (repeat (first | rw [if_pos (by omega)] | rw [if_neg (by omega)])) <;> simp_all
      exact ly_iret x d_Rule_applies_63 (dz_nbo (by omega)) ⟨by rw [hN9]; rfl, rfl⟩
    · have hc51 : f = true := dz_bt hc51
      refine dz_iload_n x.1 2 d_Rule_applies_54 rfl rfl ?_
      refine dz_if_ne (tgt := 62) x.1 d_Rule_applies_55 (by decide) (dz_br _) (fun hc55 => ?_) (fun hc55 => ?_)
      · have hc55 : la = true := dz_bt hc55
        refine dz_iconst x.1 d_Rule_applies_62 ?_
        have hN9 : sp_app (sp_k u) f la = false := by unfold sp_app; (repeat (first | rw [if_pos (by omega)] | rw [if_neg (by omega)])) <;> simp_all
        exact ly_iret x d_Rule_applies_63 (dz_nbo (by omega)) ⟨by rw [hN9]; rfl, rfl⟩
      · have hc55 : ¬ (la = true) := dz_bf hc55
        refine dz_iconst x.1 d_Rule_applies_58 ?_
        refine dz_goto (tgt := 63) x.1 d_Rule_applies_59 (by decide) ?_
        have hN9 : sp_app (sp_k u) f la = true := by unfold sp_app; (repeat (first | rw [if_pos (by omega)] | rw [if_neg (by omega)])) <;> simp_all
        exact ly_iret x d_Rule_applies_63 (dz_nbo (by omega)) ⟨by rw [hN9]; rfl, rfl⟩
  · refine dz_tableIn (off := 60) (tgt := 64) x.1 d_Rule_applies_4 (by omega) (by omega) (by rw [hs4]; rfl) (by decide) ?_
    refine dz_iload_n x.1 1 d_Rule_applies_64 rfl rfl ?_
    refine dz_if_ne (tgt := 76) x.1 d_Rule_applies_65 (by decide) (dz_br _) (fun hc65 => ?_) (fun hc65 => ?_)
    · have hc65 : f = true := dz_bt hc65
      refine dz_iconst x.1 d_Rule_applies_76 ?_
      have hN9 : sp_app (sp_k u) f la = false := by unfold sp_app; (repeat (first | rw [if_pos (by omega)] | rw [if_neg (by omega)])) <;> simp_all
      exact ly_iret x d_Rule_applies_77 (dz_nbo (by omega)) ⟨by rw [hN9]; rfl, rfl⟩
    · have hc65 : ¬ (f = true) := dz_bf hc65
      refine dz_iload_n x.1 2 d_Rule_applies_68 rfl rfl ?_
      refine dz_if_ne (tgt := 76) x.1 d_Rule_applies_69 (by decide) (dz_br _) (fun hc69 => ?_) (fun hc69 => ?_)
      · have hc69 : la = true := dz_bt hc69
        refine dz_iconst x.1 d_Rule_applies_76 ?_
        have hN9 : sp_app (sp_k u) f la = false := by unfold sp_app; (repeat (first | rw [if_pos (by omega)] | rw [if_neg (by omega)])) <;> simp_all
        exact ly_iret x d_Rule_applies_77 (dz_nbo (by omega)) ⟨by rw [hN9]; rfl, rfl⟩
      · have hc69 : ¬ (la = true) := dz_bf hc69
        refine dz_iconst x.1 d_Rule_applies_72 ?_
        refine dz_goto (tgt := 77) x.1 d_Rule_applies_73 (by decide) ?_
        have hN9 : sp_app (sp_k u) f la = true := by unfold sp_app; (repeat (first | rw [if_pos (by omega)] | rw [if_neg (by omega)])) <;> simp_all
        exact ly_iret x d_Rule_applies_77 (dz_nbo (by omega)) ⟨by rw [hN9]; rfl, rfl⟩
  · refine dz_tableIn (off := 74) (tgt := 78) x.1 d_Rule_applies_4 (by omega) (by omega) (by rw [hs4]; rfl) (by decide) ?_
    refine dz_iload_n x.1 1 d_Rule_applies_78 rfl rfl ?_
    refine dz_if_ne (tgt := 90) x.1 d_Rule_applies_79 (by decide) (dz_br _) (fun hc79 => ?_) (fun hc79 => ?_)
    · have hc79 : f = true := dz_bt hc79
      refine dz_iconst x.1 d_Rule_applies_90 ?_
      have hN9 : sp_app (sp_k u) f la = false := by unfold sp_app; (repeat (first | rw [if_pos (by omega)] | rw [if_neg (by omega)])) <;> simp_all
      exact ly_iret x d_Rule_applies_91 (dz_nbo (by omega)) ⟨by rw [hN9]; rfl, rfl⟩
    · have hc79 : ¬ (f = true) := dz_bf hc79
      refine dz_iload_n x.1 2 d_Rule_applies_82 rfl rfl ?_
      refine dz_if_eq (tgt := 90) x.1 d_Rule_applies_83 (by decide) (dz_br _) (fun hc83 => ?_) (fun hc83 => ?_)
      · have hc83 : ¬ (la = true) := dz_bf hc83
        refine dz_iconst x.1 d_Rule_applies_90 ?_
        have hN9 : sp_app (sp_k u) f la = false := by unfold sp_app; (repeat (first | rw [if_pos (by omega)] | rw [if_neg (by omega)])) <;> simp_all
        exact ly_iret x d_Rule_applies_91 (dz_nbo (by omega)) ⟨by rw [hN9]; rfl, rfl⟩
      · have hc83 : la = true := dz_bt hc83
        refine dz_iconst x.1 d_Rule_applies_86 ?_
        refine dz_goto (tgt := 91) x.1 d_Rule_applies_87 (by decide) ?_
        have hN9 : sp_app (sp_k u) f la = true := by unfold sp_app; (repeat (first | rw [if_pos (by omega)] | rw [if_neg (by omega)])) <;> simp_all
        exact ly_iret x d_Rule_applies_91 (dz_nbo (by omega)) ⟨by rw [hN9]; rfl, rfl⟩
  · refine dz_tableOut (tgt := 92) x.1 d_Rule_applies_4 (by omega) (by omega) (by decide) ?_
    refine dz_iconst x.1 d_Rule_applies_92 ?_
    have hN9 : sp_app (sp_k u) f la = true := by unfold sp_app; (repeat (first | rw [if_pos (by omega)] | rw [if_neg (by omega)])) <;> simp_all
    exact ly_iret x d_Rule_applies_93 (dz_nbo (by omega)) ⟨by rw [hN9]; rfl, rfl⟩
set_option maxRecDepth 100000 in
set_option maxHeartbeats 4000000 in
theorem c_Rule_hasLettersAt (l : Launch) (D : va_G) (Dt : Nat → ClassId) (b sz : Nat) (I : dz_Hp) (r : Nat) (hr : r < 24) (u : sp_Ru) (hu : sp_rl b r I u) (hw : sp_rwf u) (n : Int) (g : Int → Int) (TI : sp_T b I n g) (p : Int) (hp : -1000 ≤ p ∧ p < 1000) (a : Bool) : ly_M l D Dt b sz y_Rule_hasLettersAt b_Rule_hasLettersAt 7 (some .boolean) 2 [.ref (b + (5 + 3 * r)), .ref (b + 1), .int (dz_i p), .int (dz_i (if a = true then 1 else 0))] I (fun v I' => v = some (.int (dz_i (if sp_all (sp_hl g p a u) (sp_ln u).toNat = true then 1 else 0))) ∧ I' = I) := by
  refine ly_enter R_Rule (by decide) rfl (Nat.le_of_ble_eq_true rfl) (ly_cat _ 0 rfl) (fun κ x => ?_)
  have hN := ly_N x
  have hw0 := hw.1
  have hw1 := hw.2.1
  have hw2 := hw.2.2.1
  have loop : ∀ (k : Nat) (i : Int), (0 ≤ i ∧ i + (k : Int) = sp_ln u) → (∀ j : Int, 0 ≤ j → j < i → sp_hl g p a u j = true) → ly_V κ b sz I 3 [(0, .ref (b + (5 + 3 * r))), (1, .ref (b + 1)), (2, .int (dz_i p)), (3, .int (dz_i (if a = true then 1 else 0))), (4, .int (dz_i i))] [] := by
    intro k
    induction k with
    | zero =>
      intro i hi hl
      refine dz_iload x.1 4 d_Rule_hasLettersAt_3 rfl ?_
      refine dz_aload_n x.1 0 d_Rule_hasLettersAt_5 rfl rfl ?_
      refine dz_geti (z := (sp_ln u)) x.1 (ly_Rule b hr) fl_Rule_41 d_Rule_hasLettersAt_6 hu.2.1 ?_
      refine dz_icmp_ge (tgt := 71) x.1 d_Rule_hasLettersAt_9 (by decide) (by omega) (by omega) (fun hc9 => ?_) (fun hc9 => by exfalso; omega)
      refine dz_iconst x.1 d_Rule_hasLettersAt_71 ?_
      exact ly_iret x d_Rule_hasLettersAt_72 (dz_nbo (by omega)) ⟨by rw [sp_bt (sp_all_t (fun j h1 h2 => hl j h1 (by omega)))], rfl⟩
    | succ k ih =>
      intro i hi hl
      have hlt := hw.2.2.2.1 i (by omega) (by omega)
      refine dz_iload x.1 4 d_Rule_hasLettersAt_3 rfl ?_
      refine dz_aload_n x.1 0 d_Rule_hasLettersAt_5 rfl rfl ?_
      refine dz_geti (z := (sp_ln u)) x.1 (ly_Rule b hr) fl_Rule_41 d_Rule_hasLettersAt_6 hu.2.1 ?_
      refine dz_icmp_ge (tgt := 71) x.1 d_Rule_hasLettersAt_9 (by decide) (by omega) (by omega) (fun hc9 => by exfalso; omega) (fun hc9 => ?_)
      refine dz_aload_n x.1 1 d_Rule_hasLettersAt_12 rfl rfl ?_
      refine dz_iload_n x.1 2 d_Rule_hasLettersAt_13 rfl rfl ?_
      refine dz_iload x.1 4 d_Rule_hasLettersAt_14 rfl ?_
      refine dz_iadd (z := p + i) x.1 d_Rule_hasLettersAt_16 (by omega) ?_
      refine ly_callV (rest := []) x cl_Rule_21 (c_chAt l D Dt b sz I n g TI (p + i) (by omega)) (by decide) (ly_Typed b) rfl rfl rfl rfl (Nat.le_of_ble_eq_true rfl) d_Rule_hasLettersAt_17 (fun v I' hp17 => ?_)
      obtain ⟨rfl, hp17I⟩ := hp17
      have hp17I := hp17I.symm
      subst hp17I
      have hhp17 := TI.rng (p + i)
      show ly_V κ b sz I 20 [(0, .ref (b + (5 + 3 * r))), (1, .ref (b + 1)), (2, .int (dz_i p)), (3, .int (dz_i (if a = true then 1 else 0))), (4, .int (dz_i i))] [.int (dz_i (g (p + i)))]
      refine dz_istore (ls' := [(0, .ref (b + (5 + 3 * r))), (1, .ref (b + 1)), (2, .int (dz_i p)), (3, .int (dz_i (if a = true then 1 else 0))), (4, .int (dz_i i)), (5, .int (dz_i (g (p + i))))]) x.1 d_Rule_hasLettersAt_20 hN (by decide) rfl ?_
      refine dz_iload_n x.1 3 d_Rule_hasLettersAt_22 rfl rfl ?_
      refine dz_if_ne (tgt := 31) x.1 d_Rule_hasLettersAt_23 (by decide) (dz_br _) (fun hc23 => ?_) (fun hc23 => ?_)
      · have hc23 : a = true := dz_bt hc23
        refine dz_iconst x.1 d_Rule_hasLettersAt_31 ?_
        refine dz_goto (tgt := 36) x.1 d_Rule_hasLettersAt_32 (by decide) ?_
        refine dz_istore (ls' := [(0, .ref (b + (5 + 3 * r))), (1, .ref (b + 1)), (2, .int (dz_i p)), (3, .int (dz_i (if a = true then 1 else 0))), (4, .int (dz_i i)), (5, .int (dz_i (g (p + i)))), (6, .int (dz_i 1))]) x.1 d_Rule_hasLettersAt_36 hN (by decide) rfl ?_
        refine dz_iload x.1 6 d_Rule_hasLettersAt_38 rfl ?_
        refine dz_if_eq (tgt := 51) x.1 d_Rule_hasLettersAt_40 (by decide) (by omega) (fun hc40 => by exfalso; omega) (fun hc40 => ?_)
        refine dz_iload x.1 5 d_Rule_hasLettersAt_43 rfl ?_
        refine ly_callS (rest := []) x cl_Rule_61 (c_Code_toSmall l D Dt b sz I (g (p + i)) (by omega)) (by decide) rfl rfl (Nat.le_of_ble_eq_true rfl) d_Rule_hasLettersAt_45 (fun v I' hp45 => ?_)
        obtain ⟨rfl, hp45I⟩ := hp45
        have hp45I := hp45I.symm
        subst hp45I
        have hsm := sp_small_rng (c := g (p + i)) (by omega)
        show ly_V κ b sz I 48 [(0, .ref (b + (5 + 3 * r))), (1, .ref (b + 1)), (2, .int (dz_i p)), (3, .int (dz_i (if a = true then 1 else 0))), (4, .int (dz_i i)), (5, .int (dz_i (g (p + i)))), (6, .int (dz_i 1))] [.int (dz_i (sp_small (g (p + i))))]
        refine dz_goto (tgt := 53) x.1 d_Rule_hasLettersAt_48 (by decide) ?_
        refine dz_aload_n x.1 0 d_Rule_hasLettersAt_53 rfl rfl ?_
        refine dz_getr x.1 (ly_Rule b hr) fl_Rule_9 (lr_Rule_1 b hr) d_Rule_hasLettersAt_54 ?_
        refine dz_iload x.1 4 d_Rule_hasLettersAt_57 rfl ?_
        refine dz_cald (w := (sp_lt u i)) x.1 (ly_Letters b hr) (by decide) (by omega) d_Rule_hasLettersAt_59 (hu.2.2.2.1 i (by omega) (by omega)) ?_
        refine dz_icmp_eq (tgt := 65) x.1 d_Rule_hasLettersAt_60 (by decide) (by omega) (by omega) (fun hc60 => ?_) (fun hc60 => ?_)
        · refine dz_iinc (z := i + 1) (ls' := [(0, .ref (b + (5 + 3 * r))), (1, .ref (b + 1)), (2, .int (dz_i p)), (3, .int (dz_i (if a = true then 1 else 0))), (4, .int (dz_i (i + 1))), (5, .int (dz_i (g (p + i)))), (6, .int (dz_i 1))]) x.1 4 d_Rule_hasLettersAt_65 rfl hN (by decide) (by omega) rfl ?_
          refine dz_goto (tgt := 3) x.1 d_Rule_hasLettersAt_68 (by decide) ?_
          refine dz_take 5 (ls' := [(0, .ref (b + (5 + 3 * r))), (1, .ref (b + 1)), (2, .int (dz_i p)), (3, .int (dz_i (if a = true then 1 else 0))), (4, .int (dz_i (i + 1)))]) rfl ?_
          have hN9 : sp_hl g p a u i = true := by unfold sp_hl; rw [if_pos (by first | exact Or.inl hc23 | exact Or.inr hc28)]; exact decide_eq_true hc60
          exact ih (i + 1) (by omega) (fun j h1 h2 => by
        by_cases e : j = i
        · rw [e]; exact hN9
        · exact hl j h1 (by omega))
        · refine dz_iconst x.1 d_Rule_hasLettersAt_63 ?_
          have hN9 : sp_hl g p a u i = false := by unfold sp_hl; rw [if_pos (by first | exact Or.inl hc23 | exact Or.inr hc28)]; exact decide_eq_false hc60
          exact ly_iret x d_Rule_hasLettersAt_64 (dz_nbo (by omega)) ⟨by rw [sp_bf (sp_all_f (j := i) (by omega) (by omega) hN9)], rfl⟩
      · have hc23 : ¬ (a = true) := dz_bf hc23
        refine dz_iload x.1 4 d_Rule_hasLettersAt_26 rfl ?_
        refine dz_if_ne (tgt := 35) x.1 d_Rule_hasLettersAt_28 (by decide) (by omega) (fun hc28 => ?_) (fun hc28 => ?_)
        · refine dz_iconst x.1 d_Rule_hasLettersAt_35 ?_
          refine dz_istore (ls' := [(0, .ref (b + (5 + 3 * r))), (1, .ref (b + 1)), (2, .int (dz_i p)), (3, .int (dz_i (if a = true then 1 else 0))), (4, .int (dz_i i)), (5, .int (dz_i (g (p + i)))), (6, .int (dz_i 0))]) x.1 d_Rule_hasLettersAt_36 hN (by decide) rfl ?_
          refine dz_iload x.1 6 d_Rule_hasLettersAt_38 rfl ?_
          refine dz_if_eq (tgt := 51) x.1 d_Rule_hasLettersAt_40 (by decide) (by omega) (fun hc40 => ?_) (fun hc40 => by exfalso; omega)
          refine dz_iload x.1 5 d_Rule_hasLettersAt_51 rfl ?_
          refine dz_aload_n x.1 0 d_Rule_hasLettersAt_53 rfl rfl ?_
          refine dz_getr x.1 (ly_Rule b hr) fl_Rule_9 (lr_Rule_1 b hr) d_Rule_hasLettersAt_54 ?_
          refine dz_iload x.1 4 d_Rule_hasLettersAt_57 rfl ?_
          refine dz_cald (w := (sp_lt u i)) x.1 (ly_Letters b hr) (by decide) (by omega) d_Rule_hasLettersAt_59 (hu.2.2.2.1 i (by omega) (by omega)) ?_
          refine dz_icmp_eq (tgt := 65) x.1 d_Rule_hasLettersAt_60 (by decide) (by omega) (by omega) (fun hc60 => ?_) (fun hc60 => ?_)
          · refine dz_iinc (z := i + 1) (ls' := [(0, .ref (b + (5 + 3 * r))), (1, .ref (b + 1)), (2, .int (dz_i p)), (3, .int (dz_i (if a = true then 1 else 0))), (4, .int (dz_i (i + 1))), (5, .int (dz_i (g (p + i)))), (6, .int (dz_i 0))]) x.1 4 d_Rule_hasLettersAt_65 rfl hN (by decide) (by omega) rfl ?_
            refine dz_goto (tgt := 3) x.1 d_Rule_hasLettersAt_68 (by decide) ?_
            refine dz_take 5 (ls' := [(0, .ref (b + (5 + 3 * r))), (1, .ref (b + 1)), (2, .int (dz_i p)), (3, .int (dz_i (if a = true then 1 else 0))), (4, .int (dz_i (i + 1)))]) rfl ?_
            have hN9 : sp_hl g p a u i = true := by unfold sp_hl; rw [if_neg (by intro h; rcases h with h | h; exact hc23 h; exact hc28 h)]; exact decide_eq_true hc60
            exact ih (i + 1) (by omega) (fun j h1 h2 => by
        by_cases e : j = i
        · rw [e]; exact hN9
        · exact hl j h1 (by omega))
          · refine dz_iconst x.1 d_Rule_hasLettersAt_63 ?_
            have hN9 : sp_hl g p a u i = false := by unfold sp_hl; rw [if_neg (by intro h; rcases h with h | h; exact hc23 h; exact hc28 h)]; exact decide_eq_false hc60
            exact ly_iret x d_Rule_hasLettersAt_64 (dz_nbo (by omega)) ⟨by rw [sp_bf (sp_all_f (j := i) (by omega) (by omega) hN9)], rfl⟩
        · refine dz_iconst x.1 d_Rule_hasLettersAt_31 ?_
          refine dz_goto (tgt := 36) x.1 d_Rule_hasLettersAt_32 (by decide) ?_
          refine dz_istore (ls' := [(0, .ref (b + (5 + 3 * r))), (1, .ref (b + 1)), (2, .int (dz_i p)), (3, .int (dz_i (if a = true then 1 else 0))), (4, .int (dz_i i)), (5, .int (dz_i (g (p + i)))), (6, .int (dz_i 1))]) x.1 d_Rule_hasLettersAt_36 hN (by decide) rfl ?_
          refine dz_iload x.1 6 d_Rule_hasLettersAt_38 rfl ?_
          refine dz_if_eq (tgt := 51) x.1 d_Rule_hasLettersAt_40 (by decide) (by omega) (fun hc40 => by exfalso; omega) (fun hc40 => ?_)
          refine dz_iload x.1 5 d_Rule_hasLettersAt_43 rfl ?_
          refine ly_callS (rest := []) x cl_Rule_61 (c_Code_toSmall l D Dt b sz I (g (p + i)) (by omega)) (by decide) rfl rfl (Nat.le_of_ble_eq_true rfl) d_Rule_hasLettersAt_45 (fun v I' hp45 => ?_)
          obtain ⟨rfl, hp45I⟩ := hp45
          have hp45I := hp45I.symm
          subst hp45I
          have hsm := sp_small_rng (c := g (p + i)) (by omega)
          show ly_V κ b sz I 48 [(0, .ref (b + (5 + 3 * r))), (1, .ref (b + 1)), (2, .int (dz_i p)), (3, .int (dz_i (if a = true then 1 else 0))), (4, .int (dz_i i)), (5, .int (dz_i (g (p + i)))), (6, .int (dz_i 1))] [.int (dz_i (sp_small (g (p + i))))]
          refine dz_goto (tgt := 53) x.1 d_Rule_hasLettersAt_48 (by decide) ?_
          refine dz_aload_n x.1 0 d_Rule_hasLettersAt_53 rfl rfl ?_
          refine dz_getr x.1 (ly_Rule b hr) fl_Rule_9 (lr_Rule_1 b hr) d_Rule_hasLettersAt_54 ?_
          refine dz_iload x.1 4 d_Rule_hasLettersAt_57 rfl ?_
          refine dz_cald (w := (sp_lt u i)) x.1 (ly_Letters b hr) (by decide) (by omega) d_Rule_hasLettersAt_59 (hu.2.2.2.1 i (by omega) (by omega)) ?_
          refine dz_icmp_eq (tgt := 65) x.1 d_Rule_hasLettersAt_60 (by decide) (by omega) (by omega) (fun hc60 => ?_) (fun hc60 => ?_)
          · refine dz_iinc (z := i + 1) (ls' := [(0, .ref (b + (5 + 3 * r))), (1, .ref (b + 1)), (2, .int (dz_i p)), (3, .int (dz_i (if a = true then 1 else 0))), (4, .int (dz_i (i + 1))), (5, .int (dz_i (g (p + i)))), (6, .int (dz_i 1))]) x.1 4 d_Rule_hasLettersAt_65 rfl hN (by decide) (by omega) rfl ?_
            refine dz_goto (tgt := 3) x.1 d_Rule_hasLettersAt_68 (by decide) ?_
            refine dz_take 5 (ls' := [(0, .ref (b + (5 + 3 * r))), (1, .ref (b + 1)), (2, .int (dz_i p)), (3, .int (dz_i (if a = true then 1 else 0))), (4, .int (dz_i (i + 1)))]) rfl ?_
            have hN9 : sp_hl g p a u i = true := by unfold sp_hl; rw [if_pos (by first | exact Or.inl hc23 | exact Or.inr hc28)]; exact decide_eq_true hc60
            exact ih (i + 1) (by omega) (fun j h1 h2 => by
        by_cases e : j = i
        · rw [e]; exact hN9
        · exact hl j h1 (by omega))
          · refine dz_iconst x.1 d_Rule_hasLettersAt_63 ?_
            have hN9 : sp_hl g p a u i = false := by unfold sp_hl; rw [if_pos (by first | exact Or.inl hc23 | exact Or.inr hc28)]; exact decide_eq_false hc60
            exact ly_iret x d_Rule_hasLettersAt_64 (dz_nbo (by omega)) ⟨by rw [sp_bf (sp_all_f (j := i) (by omega) (by omega) hN9)], rfl⟩
  show ly_V κ b sz I 0 [(0, .ref (b + (5 + 3 * r))), (1, .ref (b + 1)), (2, .int (dz_i p)), (3, .int (dz_i (if a = true then 1 else 0)))] []
  refine dz_iconst x.1 d_Rule_hasLettersAt_0 ?_
  refine dz_istore (ls' := [(0, .ref (b + (5 + 3 * r))), (1, .ref (b + 1)), (2, .int (dz_i p)), (3, .int (dz_i (if a = true then 1 else 0))), (4, .int (dz_i 0))]) x.1 d_Rule_hasLettersAt_1 hN (by decide) rfl ?_
  exact loop (sp_ln u).toNat 0 (by omega) (fun j h1 h2 => by omega)
set_option maxRecDepth 100000 in
set_option maxHeartbeats 4000000 in
theorem c_Rule_hasCellsAt (l : Launch) (D : va_G) (Dt : Nat → ClassId) (b sz : Nat) (I : dz_Hp) (r : Nat) (hr : r < 24) (u : sp_Ru) (hu : sp_rl b r I u) (hw : sp_rwf u) (i : Nat) (hi : i < 12) (m : Int) (h : Int → Int) (BI : sp_B b i I m h) (p : Int) (hp : -1000 ≤ p ∧ p < 1000) : ly_M l D Dt b sz y_Rule_hasCellsAt b_Rule_hasCellsAt 4 (some .boolean) 2 [.ref (b + (5 + 3 * r)), .ref (b + (82 + 4 * i)), .int (dz_i p)] I (fun v I' => v = some (.int (dz_i (if sp_all (sp_hc h p u) (sp_cn u).toNat = true then 1 else 0))) ∧ I' = I) := by
  refine ly_enter R_Rule (by decide) rfl (Nat.le_of_ble_eq_true rfl) (ly_cat _ 0 rfl) (fun κ x => ?_)
  have hN := ly_N x
  have hw0 := hw.1
  have hw1 := hw.2.1
  have hw2 := hw.2.2.1
  have loop : ∀ (k : Nat) (j : Int), (0 ≤ j ∧ j + (k : Int) = sp_cn u) → (∀ q : Int, 0 ≤ q → q < j → sp_hc h p u q = true) → ly_V κ b sz I 2 [(0, .ref (b + (5 + 3 * r))), (1, .ref (b + (82 + 4 * i))), (2, .int (dz_i p)), (3, .int (dz_i j))] [] := by
    intro k
    induction k with
    | zero =>
      intro j hj hl
      refine dz_iload_n x.1 3 d_Rule_hasCellsAt_2 rfl rfl ?_
      refine dz_aload_n x.1 0 d_Rule_hasCellsAt_3 rfl rfl ?_
      refine dz_geti (z := (sp_cn u)) x.1 (ly_Rule b hr) fl_Rule_54 d_Rule_hasCellsAt_4 hu.2.2.1 ?_
      refine dz_icmp_ge (tgt := 34) x.1 d_Rule_hasCellsAt_7 (by decide) (by omega) (by omega) (fun hc7 => ?_) (fun hc7 => by exfalso; omega)
      refine dz_iconst x.1 d_Rule_hasCellsAt_34 ?_
      exact ly_iret x d_Rule_hasCellsAt_35 (dz_nbo (by omega)) ⟨by rw [sp_bt (sp_all_t (fun q h1 h2 => hl q h1 (by omega)))], rfl⟩
    | succ k ih =>
      intro j hj hl
      have hlt := hw.2.2.2.2 j (by omega) (by omega)
      refine dz_iload_n x.1 3 d_Rule_hasCellsAt_2 rfl rfl ?_
      refine dz_aload_n x.1 0 d_Rule_hasCellsAt_3 rfl rfl ?_
      refine dz_geti (z := (sp_cn u)) x.1 (ly_Rule b hr) fl_Rule_54 d_Rule_hasCellsAt_4 hu.2.2.1 ?_
      refine dz_icmp_ge (tgt := 34) x.1 d_Rule_hasCellsAt_7 (by decide) (by omega) (by omega) (fun hc7 => by exfalso; omega) (fun hc7 => ?_)
      refine dz_aload_n x.1 1 d_Rule_hasCellsAt_10 rfl rfl ?_
      refine dz_iload_n x.1 2 d_Rule_hasCellsAt_11 rfl rfl ?_
      refine dz_iload_n x.1 3 d_Rule_hasCellsAt_12 rfl rfl ?_
      refine dz_iadd (z := p + j) x.1 d_Rule_hasCellsAt_13 (by omega) ?_
      refine ly_callV (rest := []) x cl_Rule_65 (c_caAt l D Dt b sz I i hi m h BI (p + j) (by omega)) (by decide) (ly_Block b hi) rfl rfl rfl rfl (Nat.le_of_ble_eq_true rfl) d_Rule_hasCellsAt_14 (fun v I' hp14 => ?_)
      obtain ⟨rfl, hp14I⟩ := hp14
      have hp14I := hp14I.symm
      subst hp14I
      have hhp14 := BI.rng (p + j)
      show ly_V κ b sz I 17 [(0, .ref (b + (5 + 3 * r))), (1, .ref (b + (82 + 4 * i))), (2, .int (dz_i p)), (3, .int (dz_i j))] [.int (dz_i (h (p + j)))]
      refine dz_aload_n x.1 0 d_Rule_hasCellsAt_17 rfl rfl ?_
      refine dz_getr x.1 (ly_Rule b hr) fl_Rule_15 (lr_Rule_3 b hr) d_Rule_hasCellsAt_18 ?_
      refine dz_iload_n x.1 3 d_Rule_hasCellsAt_21 rfl rfl ?_
      refine dz_iald (w := (sp_ce u j)) x.1 (ly_RCells b hr) (by decide) (by omega) d_Rule_hasCellsAt_22 (hu.2.2.2.2 j (by omega) (by omega)) ?_
      refine dz_icmp_eq (tgt := 28) x.1 d_Rule_hasCellsAt_23 (by decide) (by omega) (by omega) (fun hc23 => ?_) (fun hc23 => ?_)
      · refine dz_iinc (z := j + 1) (ls' := [(0, .ref (b + (5 + 3 * r))), (1, .ref (b + (82 + 4 * i))), (2, .int (dz_i p)), (3, .int (dz_i (j + 1)))]) x.1 3 d_Rule_hasCellsAt_28 rfl hN (by decide) (by omega) rfl ?_
        refine dz_goto (tgt := 2) x.1 d_Rule_hasCellsAt_31 (by decide) ?_
        exact ih (j + 1) (by omega) (fun q h1 h2 => by
        by_cases e : q = j
        · rw [e]; exact decide_eq_true hc23
        · exact hl q h1 (by omega))
      · refine dz_iconst x.1 d_Rule_hasCellsAt_26 ?_
        exact ly_iret x d_Rule_hasCellsAt_27 (dz_nbo (by omega)) ⟨by rw [sp_bf (sp_all_f (j := j) (by omega) (by omega) (decide_eq_false hc23))], rfl⟩
  show ly_V κ b sz I 0 [(0, .ref (b + (5 + 3 * r))), (1, .ref (b + (82 + 4 * i))), (2, .int (dz_i p))] []
  refine dz_iconst x.1 d_Rule_hasCellsAt_0 ?_
  refine dz_istore_n (ls' := [(0, .ref (b + (5 + 3 * r))), (1, .ref (b + (82 + 4 * i))), (2, .int (dz_i p)), (3, .int (dz_i 0))]) x.1 d_Rule_hasCellsAt_1 rfl hN (by decide) rfl ?_
  exact loop (sp_cn u).toNat 0 (by omega) (fun j h1 h2 => by omega)
set_option maxRecDepth 100000 in
set_option maxHeartbeats 4000000 in
theorem c_Rule_isLike (l : Launch) (D : va_G) (Dt : Nat → ClassId) (b sz : Nat) (I : dz_Hp) (r : Nat) (hr : r < 24) (u : sp_Ru) (hu : sp_rl b r I u) (hw : sp_rwf u) (s : Nat) (hs : s < 24) (w : sp_Ru) (hv : sp_rl b s I w) (hww : sp_rwf w) : ly_M l D Dt b sz y_Rule_isLike b_Rule_isLike 3 (some .boolean) 1 [.ref (b + (5 + 3 * r)), .ref (b + (5 + 3 * s))] I (fun v I' => v = some (.int (dz_i (if sp_like u w = true then 1 else 0))) ∧ I' = I) := by
  refine ly_enter R_Rule (by decide) rfl (Nat.le_of_ble_eq_true rfl) (ly_cat _ 0 rfl) (fun κ x => ?_)
  have hN := ly_N x
  have hw0 := hw.1
  have hw1 := hw.2.1
  have hw2 := hw.2.2.1
  have hv0 := hww.1
  have hv1 := hww.2.1
  have loop : ∀ (k : Nat) (i : Int), (0 ≤ i ∧ i + (k : Int) = sp_ln u) → (sp_k u = sp_k w ∧ sp_ln u = sp_ln w) → (∀ j : Int, 0 ≤ j → j < i → decide (sp_lt u j = sp_lt w j) = true) → ly_V κ b sz I 26 [(0, .ref (b + (5 + 3 * r))), (1, .ref (b + (5 + 3 * s))), (2, .int (dz_i i))] [] := by
    intro k
    induction k with
    | zero =>
      intro i hi he hl
      refine dz_iload_n x.1 2 d_Rule_isLike_26 rfl rfl ?_
      refine dz_aload_n x.1 0 d_Rule_isLike_27 rfl rfl ?_
      refine dz_geti (z := (sp_ln u)) x.1 (ly_Rule b hr) fl_Rule_41 d_Rule_isLike_28 hu.2.1 ?_
      refine dz_icmp_ge (tgt := 57) x.1 d_Rule_isLike_31 (by decide) (by omega) (by omega) (fun hc31 => ?_) (fun hc31 => by exfalso; omega)
      refine dz_iconst x.1 d_Rule_isLike_57 ?_
      exact ly_iret x d_Rule_isLike_58 (dz_nbo (by omega)) ⟨by rw [sp_bt (by unfold sp_like; rw [decide_eq_true he, sp_all_t (fun j h1 h2 => hl j h1 (by omega))]; rfl)], rfl⟩
    | succ k ih =>
      intro i hi he hl
      have hlt := hw.2.2.2.1 i (by omega) (by omega)
      have hlt2 := hww.2.2.2.1 i (by omega) (by omega)
      refine dz_iload_n x.1 2 d_Rule_isLike_26 rfl rfl ?_
      refine dz_aload_n x.1 0 d_Rule_isLike_27 rfl rfl ?_
      refine dz_geti (z := (sp_ln u)) x.1 (ly_Rule b hr) fl_Rule_41 d_Rule_isLike_28 hu.2.1 ?_
      refine dz_icmp_ge (tgt := 57) x.1 d_Rule_isLike_31 (by decide) (by omega) (by omega) (fun hc31 => by exfalso; omega) (fun hc31 => ?_)
      refine dz_aload_n x.1 0 d_Rule_isLike_34 rfl rfl ?_
      refine dz_getr x.1 (ly_Rule b hr) fl_Rule_9 (lr_Rule_1 b hr) d_Rule_isLike_35 ?_
      refine dz_iload_n x.1 2 d_Rule_isLike_38 rfl rfl ?_
      refine dz_cald (w := (sp_lt u i)) x.1 (ly_Letters b hr) (by decide) (by omega) d_Rule_isLike_39 (hu.2.2.2.1 i (by omega) (by omega)) ?_
      refine dz_aload_n x.1 1 d_Rule_isLike_40 rfl rfl ?_
      refine dz_getr x.1 (ly_Rule b hs) fl_Rule_9 (lr_Rule_1 b hs) d_Rule_isLike_41 ?_
      refine dz_iload_n x.1 2 d_Rule_isLike_44 rfl rfl ?_
      refine dz_cald (w := (sp_lt w i)) x.1 (ly_Letters b hs) (by decide) (by omega) d_Rule_isLike_45 (hv.2.2.2.1 i (by omega) (by omega)) ?_
      refine dz_icmp_eq (tgt := 51) x.1 d_Rule_isLike_46 (by decide) (by omega) (by omega) (fun hc46 => ?_) (fun hc46 => ?_)
      · refine dz_iinc (z := i + 1) (ls' := [(0, .ref (b + (5 + 3 * r))), (1, .ref (b + (5 + 3 * s))), (2, .int (dz_i (i + 1)))]) x.1 2 d_Rule_isLike_51 rfl hN (by decide) (by omega) rfl ?_
        refine dz_goto (tgt := 26) x.1 d_Rule_isLike_54 (by decide) ?_
        exact ih (i + 1) (by omega) he (fun j h1 h2 => by
        by_cases e : j = i
        · rw [e]; exact decide_eq_true hc46
        · exact hl j h1 (by omega))
      · refine dz_iconst x.1 d_Rule_isLike_49 ?_
        exact ly_iret x d_Rule_isLike_50 (dz_nbo (by omega)) ⟨by rw [sp_bf (by unfold sp_like; rw [sp_all_f (j := i) (by omega) (by omega) (decide_eq_false hc46)]; exact Bool.and_false _)], rfl⟩
  show ly_V κ b sz I 0 [(0, .ref (b + (5 + 3 * r))), (1, .ref (b + (5 + 3 * s)))] []
  refine dz_aload_n x.1 0 d_Rule_isLike_0 rfl rfl ?_
  refine dz_geti (z := (sp_k u)) x.1 (ly_Rule b hr) fl_Rule_33 d_Rule_isLike_1 hu.1 ?_
  refine dz_aload_n x.1 1 d_Rule_isLike_4 rfl rfl ?_
  refine dz_geti (z := (sp_k w)) x.1 (ly_Rule b hs) fl_Rule_33 d_Rule_isLike_5 hv.1 ?_
  refine dz_icmp_ne (tgt := 22) x.1 d_Rule_isLike_8 (by decide) (by omega) (by omega) (fun hc8 => ?_) (fun hc8 => ?_)
  · refine dz_iconst x.1 d_Rule_isLike_22 ?_
    exact ly_iret x d_Rule_isLike_23 (dz_nbo (by omega)) ⟨by rw [sp_bf (by unfold sp_like; rw [show decide (sp_k u = sp_k w ∧ sp_ln u = sp_ln w) = false from decide_eq_false (by omega)]; rfl)], rfl⟩
  · refine dz_aload_n x.1 0 d_Rule_isLike_11 rfl rfl ?_
    refine dz_geti (z := (sp_ln u)) x.1 (ly_Rule b hr) fl_Rule_41 d_Rule_isLike_12 hu.2.1 ?_
    refine dz_aload_n x.1 1 d_Rule_isLike_15 rfl rfl ?_
    refine dz_geti (z := (sp_ln w)) x.1 (ly_Rule b hs) fl_Rule_41 d_Rule_isLike_16 hv.2.1 ?_
    refine dz_icmp_eq (tgt := 24) x.1 d_Rule_isLike_19 (by decide) (by omega) (by omega) (fun hc19 => ?_) (fun hc19 => ?_)
    · refine dz_iconst x.1 d_Rule_isLike_24 ?_
      refine dz_istore_n (ls' := [(0, .ref (b + (5 + 3 * r))), (1, .ref (b + (5 + 3 * s))), (2, .int (dz_i 0))]) x.1 d_Rule_isLike_25 rfl hN (by decide) rfl ?_
      exact loop (sp_ln u).toNat 0 (by omega) ⟨by omega, by omega⟩ (fun j h1 h2 => by omega)
    · refine dz_iconst x.1 d_Rule_isLike_22 ?_
      exact ly_iret x d_Rule_isLike_23 (dz_nbo (by omega)) ⟨by rw [sp_bf (by unfold sp_like; rw [show decide (sp_k u = sp_k w ∧ sp_ln u = sp_ln w) = false from decide_eq_false (by omega)]; rfl)], rfl⟩
