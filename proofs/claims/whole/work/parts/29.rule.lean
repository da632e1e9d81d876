abbrev sp_Ru : Type := Int × Int × Int × (Int → Int) × (Int → Int)
def sp_k (x : sp_Ru) : Int := x.1
def sp_ln (x : sp_Ru) : Int := x.2.1
def sp_cn (x : sp_Ru) : Int := x.2.2.1
def sp_lt (x : sp_Ru) : Int → Int := x.2.2.2.1
def sp_ce (x : sp_Ru) : Int → Int := x.2.2.2.2
/-- a rule as it lies in the class's heap -/
def sp_rl (b r : Nat) (J : dz_Hp) (x : sp_Ru) : Prop := J (b + (5 + 3 * r)) 0 = sp_k x ∧ J (b + (5 + 3 * r)) 2 = sp_ln x ∧ J (b + (5 + 3 * r)) 4 = sp_cn x ∧ (∀ j : Int, 0 ≤ j → j < sp_ln x → J (b + (6 + 3 * r)) j = sp_lt x j) ∧ (∀ j : Int, 0 ≤ j → j < sp_cn x → J (b + (7 + 3 * r)) j = sp_ce x j)
def sp_rwf (x : sp_Ru) : Prop := (0 ≤ sp_k x ∧ sp_k x ≤ 4) ∧ (2 ≤ sp_ln x ∧ sp_ln x ≤ 6) ∧ (1 ≤ sp_cn x ∧ sp_cn x ≤ 3) ∧ (∀ j : Int, 0 ≤ j → j < sp_ln x → 97 ≤ sp_lt x j ∧ sp_lt x j ≤ 122) ∧ (∀ j : Int, 0 ≤ j → j < sp_cn x → 1 ≤ sp_ce x j ∧ sp_ce x j ≤ 63)
def sp_sm (g : Int → Int) (f0 : Int) : Int → Bool := fun j => decide (97 ≤ g (f0 + j) ∧ g (f0 + j) ≤ 122)
theorem sp_ext {J : dz_Hp} {q : Nat} {i v : Int} {F : Int → Int} (h : ∀ j : Int, 0 ≤ j → j < i → J q j = F j) (hv : v = F i) : ∀ j : Int, 0 ≤ j → j < i + 1 → dz_up J q i v q j = F j := by
  intro j h1 h2
  by_cases e : j = i
  · rw [e, dz_up_s, hv]
  · rw [dz_up_k _ _ _ e]; exact h j h1 (by omega)
/-- the dot of a digit -/
def sp_dot (c : Int) : Int := if c = 49 then 1 else if c = 50 then 2 else if c = 51 then 4 else if c = 52 then 8 else if c = 53 then 16 else if c = 54 then 32 else 0
theorem sp_dot_rng (c : Int) : 0 ≤ sp_dot c ∧ sp_dot c ≤ 32 := by unfold sp_dot; (repeat' split) <;> omega
theorem sp_dot_sh {c : Int} (h : 49 ≤ c ∧ c ≤ 54) : dz_i 1 <<< (dz_i (c - 49) &&& 31) = dz_i (sp_dot c) := by
  have key : ∀ n : Nat, n < 6 → dz_i 1 <<< (dz_i ((n : Int) + 49 - 49) &&& 31) = dz_i (sp_dot ((n : Int) + 49)) := by decide +kernel
  have := key (c - 49).toNat (by omega)
  rw [show (((c - 49).toNat : Nat) : Int) + 49 = c by omega] at this
  exact this
theorem sp_dot_no {c : Int} (h : c < 49 ∨ 54 < c) : sp_dot c = 0 := by unfold sp_dot; (repeat' split) <;> omega
/-- the cells of a rule's text from i on, m characters left: p the dots of the cell that is begun, k cells so far (F) -/
def sp_rc (g : Int → Int) : Nat → Int → Int → Int → (Int → Int) → Option (Int × (Int → Int))
  | 0, _, p, k, F => if p = 0 ∨ 3 ≤ k then none else some (k + 1, dz_u F k p)
  | m + 1, i, p, k, F => if g i = 45 then (if p = 0 ∨ 3 ≤ k then none else sp_rc g m (i + 1) 0 (k + 1) (dz_u F k p)) else if sp_dot (g i) ≤ p then none else sp_rc g m (i + 1) (p + sp_dot (g i)) k F
theorem sp_rc_wf {g : Int → Int} : ∀ (m : Nat) (i p k : Int) (F : Int → Int) (cn : Int) (F' : Int → Int), 0 ≤ p ∧ p < 64 → 0 ≤ k → (∀ j : Int, 0 ≤ j → j < k → 1 ≤ F j ∧ F j ≤ 63) → sp_rc g m i p k F = some (cn, F') → (1 ≤ cn ∧ cn ≤ 3) ∧ ∀ j : Int, 0 ≤ j → j < cn → 1 ≤ F' j ∧ F' j ≤ 63 := by
  intro m
  induction m with
  | zero =>
    intro i p k F cn F' hp hk hF h
    simp only [sp_rc] at h
    split at h
    · cases h
    · cases h
      refine ⟨by omega, fun j h1 h2 => ?_⟩
      unfold dz_u; split
      · omega
      · exact hF j h1 (by omega)
  | succ m ih =>
    intro i p k F cn F' hp hk hF h
    simp only [sp_rc] at h
    have hd := sp_dot_rng (g i)
    split at h
    · split at h
      · cases h
      · refine ih _ _ _ _ _ _ (by omega) (by omega) (fun j h1 h2 => ?_) h
        unfold dz_u; split
        · omega
        · exact hF j h1 (by omega)
    · split at h
      · cases h
      · refine ih _ _ _ _ _ _ ⟨by omega, ?_⟩ hk hF h
        have h5 : sp_dot (g i) = 0 ∨ sp_dot (g i) = 1 ∨ sp_dot (g i) = 2 ∨ sp_dot (g i) = 4 ∨ sp_dot (g i) = 8 ∨ sp_dot (g i) = 16 ∨ sp_dot (g i) = 32 := by unfold sp_dot; (repeat' split) <;> omega
        omega
/-- a rule's text from f0 to t0 -/
def sp_parse (g : Int → Int) (f0 t0 : Int) : Option sp_Ru :=
  if sp_ix 0 (g f0) < 0 ∨ ¬ g (f0 + 1) = 32 then none else
  if sp_run (sp_sm g (f0 + 2)) 0 6 < 2 ∨ ¬ g (f0 + sp_run (sp_sm g (f0 + 2)) 0 6 + 2) = 61 then none else
  match sp_rc g (t0 - (f0 + sp_run (sp_sm g (f0 + 2)) 0 6 + 3)).toNat (f0 + sp_run (sp_sm g (f0 + 2)) 0 6 + 3) 0 0 (fun _ => 0) with
  | none => none
  | some (cn, F) => some (sp_ix 0 (g f0), sp_run (sp_sm g (f0 + 2)) 0 6, cn, (fun j => g (f0 + 2 + j)), F)
theorem sp_parse_wf {g : Int → Int} {f0 t0 : Int} {x : sp_Ru} (h : sp_parse g f0 t0 = some x) : sp_rwf x := by
  unfold sp_parse at h
  split at h
  · cases h
  · split at h
    · cases h
    · rename_i h1 h2
      split at h
      · cases h
      · rename_i cn F e
        cases h
        have hix : sp_ix 0 (g f0) ≤ 4 := by unfold sp_ix; (repeat' split) <;> omega
        obtain ⟨s1, s2, s3, -⟩ := sp_run_spec (sp_sm g (f0 + 2)) 6 0
        obtain ⟨w1, w2⟩ := sp_rc_wf _ _ _ _ _ _ _ (by omega) (by omega) (fun j h1 h2 => by omega) e
        refine ⟨⟨by show 0 ≤ sp_ix 0 (g f0); omega, hix⟩, ⟨by show 2 ≤ sp_run _ _ _; omega, by show sp_run _ _ _ ≤ 6; omega⟩, w1, fun j h1 h2 => ?_, w2⟩
        have := s3 j h1 h2
        unfold sp_sm at this
        exact of_decide_eq_true this
/-- whether a kind holds at the first / the last place -/
def sp_app (k : Int) (f l : Bool) : Bool := if k = 0 then f && l else if k = 1 then f && !l else if k = 2 then !f && !l else if k = 3 then !f && l else true
set_option maxRecDepth 100000 in
set_option maxHeartbeats 4000000 in
theorem c_Rule_readLetters (l : Launch) (D : va_G) (Dt : Nat → ClassId) (b sz : Nat) (I : dz_Hp) (r : Nat) (hr : r < 24) (n : Int) (g : Int → Int) (TI : sp_T b I n g) (f0 : Int) (hf : 0 ≤ f0 ∧ f0 < 1000) : ly_M l D Dt b sz y_Rule_readLetters b_Rule_readLetters 4 none 4 [.ref (b + (5 + 3 * r)), .ref (b + 1), .int (dz_i f0)] I (fun v I' => v = none ∧ sp_fr I I' (fun q => q = b + (5 + 3 * r) ∨ q = b + (6 + 3 * r)) ∧ (∀ k : Int, k ≠ 2 → I' (b + (5 + 3 * r)) k = I (b + (5 + 3 * r)) k) ∧ I' (b + (5 + 3 * r)) 2 = sp_run (sp_sm g f0) 0 6 ∧ ∀ j : Int, 0 ≤ j → j < sp_run (sp_sm g f0) 0 6 → I' (b + (6 + 3 * r)) j = g (f0 + j)) := by
  refine ly_enter R_Rule (by decide) rfl (Nat.le_of_ble_eq_true rfl) (ly_cat _ 0 rfl) (fun κ x => ?_)
  have hN := ly_N x
  have loop : ∀ (k : Nat) (i : Int) (J : dz_Hp), (0 ≤ i ∧ i + (k : Int) = 6) → (sp_fr I J (fun q => q = b + (5 + 3 * r) ∨ q = b + (6 + 3 * r))) → (∀ k : Int, k ≠ 2 → J (b + (5 + 3 * r)) k = I (b + (5 + 3 * r)) k) → (J (b + (5 + 3 * r)) 2 = i) → (∀ j : Int, 0 ≤ j → j < i → J (b + (6 + 3 * r)) j = g (f0 + j)) → (∀ j : Int, 0 ≤ j → j < i → sp_sm g f0 j = true) → ly_V κ b sz J 7 [(0, .ref (b + (5 + 3 * r))), (1, .ref (b + 1)), (2, .int (dz_i f0)), (3, .int (dz_i i))] [] := by
    intro k
    induction k with
    | zero =>
      intro i J hi hF hA hc hl hs
      have TJ : sp_T b J n g := TI.fr (hF _ (fun h => by rcases h with h | h <;> omega)) (hF _ (fun h => by rcases h with h | h <;> omega))
      have he : sp_run (sp_sm g f0) 0 6 = i := sp_run_eq (by omega) (by omega) hs (Or.inl (by omega))
      refine dz_iload_n x.1 3 d_Rule_readLetters_7 rfl rfl ?_
      refine dz_bipush x.1 d_Rule_readLetters_8 (by decide) ?_
      refine dz_icmp_ge (tgt := 55) x.1 d_Rule_readLetters_10 (by decide) (by omega) (by omega) (fun hc10 => ?_) (fun hc10 => by exfalso; omega)
      exact ly_vret x d_Rule_readLetters_55 ⟨rfl, hF, hA, by rw [he]; exact hc, fun j h1 h2 => hl j h1 (by rw [he] at h2; exact h2)⟩
    | succ k ih =>
      intro i J hi hF hA hc hl hs
      have TJ : sp_T b J n g := TI.fr (hF _ (fun h => by rcases h with h | h <;> omega)) (hF _ (fun h => by rcases h with h | h <;> omega))
      refine dz_iload_n x.1 3 d_Rule_readLetters_7 rfl rfl ?_
      refine dz_bipush x.1 d_Rule_readLetters_8 (by decide) ?_
      refine dz_icmp_ge (tgt := 55) x.1 d_Rule_readLetters_10 (by decide) (by omega) (by omega) (fun hc10 => by exfalso; omega) (fun hc10 => ?_)
      refine dz_aload_n x.1 1 d_Rule_readLetters_13 rfl rfl ?_
      refine dz_iload_n x.1 2 d_Rule_readLetters_14 rfl rfl ?_
      refine dz_iload_n x.1 3 d_Rule_readLetters_15 rfl rfl ?_
      refine dz_iadd (z := f0 + i) x.1 d_Rule_readLetters_16 (by omega) ?_
      refine ly_callV (rest := []) x cl_Rule_21 (c_chAt l D Dt b sz J n g TJ (f0 + i) (by omega)) (by decide) (ly_Typed b) rfl rfl rfl rfl (Nat.le_of_ble_eq_true rfl) d_Rule_readLetters_17 (fun v I' hp17 => ?_)
      obtain ⟨rfl, hp17I⟩ := hp17
      have hp17I := hp17I.symm
      subst hp17I
      have hhp17 := TJ.rng (f0 + i)
      show ly_V κ b sz J 20 [(0, .ref (b + (5 + 3 * r))), (1, .ref (b + 1)), (2, .int (dz_i f0)), (3, .int (dz_i i))] [.int (dz_i (g (f0 + i)))]
      refine ly_callS (rest := []) x cl_Rule_48 (c_Code_isSmall l D Dt b sz J (g (f0 + i)) (by omega)) (by decide) rfl rfl (Nat.le_of_ble_eq_true rfl) d_Rule_readLetters_20 (fun v I' hp20 => ?_)
      obtain ⟨rfl, hp20I⟩ := hp20
      have hp20I := hp20I.symm
      subst hp20I
      show ly_V κ b sz J 23 [(0, .ref (b + (5 + 3 * r))), (1, .ref (b + 1)), (2, .int (dz_i f0)), (3, .int (dz_i i))] [.int (dz_i (if 97 ≤ (g (f0 + i)) ∧ (g (f0 + i)) ≤ 122 then 1 else 0))]
      refine dz_if_eq (tgt := 55) x.1 d_Rule_readLetters_23 (by decide) (dz_br _) (fun hc23 => ?_) (fun hc23 => ?_)
      · have hc23 : ¬ (97 ≤ (g (f0 + i)) ∧ (g (f0 + i)) ≤ 122) := dz_bf hc23
        have he : sp_run (sp_sm g f0) 0 6 = i := sp_run_eq (by omega) (by omega) hs (Or.inr (decide_eq_false hc23))
        exact ly_vret x d_Rule_readLetters_55 ⟨rfl, hF, hA, by rw [he]; exact hc, fun j h1 h2 => hl j h1 (by rw [he] at h2; exact h2)⟩
      · have hc23 : 97 ≤ (g (f0 + i)) ∧ (g (f0 + i)) ≤ 122 := dz_bt hc23
        refine dz_aload_n x.1 0 d_Rule_readLetters_26 rfl rfl ?_
        refine dz_getr x.1 (ly_Rule b hr) fl_Rule_9 (lr_Rule_1 b hr) d_Rule_readLetters_27 ?_
        refine dz_iload_n x.1 3 d_Rule_readLetters_30 rfl rfl ?_
        refine dz_aload_n x.1 1 d_Rule_readLetters_31 rfl rfl ?_
        refine dz_iload_n x.1 2 d_Rule_readLetters_32 rfl rfl ?_
        refine dz_iload_n x.1 3 d_Rule_readLetters_33 rfl rfl ?_
        refine dz_iadd (z := f0 + i) x.1 d_Rule_readLetters_34 (by omega) ?_
        refine ly_callV (rest := [.int (dz_i i), .ref (b + (6 + 3 * r))]) x cl_Rule_21 (c_chAt l D Dt b sz J n g TJ (f0 + i) (by omega)) (by decide) (ly_Typed b) rfl rfl rfl rfl (Nat.le_of_ble_eq_true rfl) d_Rule_readLetters_35 (fun v I' hp35 => ?_)
        obtain ⟨rfl, hp35I⟩ := hp35
        have hp35I := hp35I.symm
        subst hp35I
        have hhp35 := TJ.rng (f0 + i)
        show ly_V κ b sz J 38 [(0, .ref (b + (5 + 3 * r))), (1, .ref (b + 1)), (2, .int (dz_i f0)), (3, .int (dz_i i))] [.int (dz_i (g (f0 + i))), .int (dz_i i), .ref (b + (6 + 3 * r))]
        refine dz_cast x.1 (ly_Letters b hr) (by decide) (by omega) (by omega) d_Rule_readLetters_38 ?_
        refine dz_aload_n x.1 0 d_Rule_readLetters_39 rfl rfl ?_
        refine dz_dup x.1 d_Rule_readLetters_40 rfl ?_
        refine dz_geti (z := i) x.1 (ly_Rule b hr) fl_Rule_41 d_Rule_readLetters_41 (by rw [dz_up_n _ _ _ (by omega)]; exact hc) ?_
        refine dz_iconst x.1 d_Rule_readLetters_44 ?_
        refine dz_iadd (z := i + 1) x.1 d_Rule_readLetters_45 (by omega) ?_
        refine dz_puti x.1 (ly_Rule b hr) fl_Rule_41 fp_Rule_2 d_Rule_readLetters_46 ?_
        refine dz_iinc (z := i + 1) (ls' := [(0, .ref (b + (5 + 3 * r))), (1, .ref (b + 1)), (2, .int (dz_i f0)), (3, .int (dz_i (i + 1)))]) x.1 3 d_Rule_readLetters_49 rfl hN (by decide) (by omega) rfl ?_
        refine dz_goto (tgt := 7) x.1 d_Rule_readLetters_52 (by decide) ?_
        exact ih (i + 1) (dz_up (dz_up J (b + (6 + 3 * r)) i (g (f0 + i))) (b + (5 + 3 * r)) 2 (i + 1)) (by omega) ((hF.up (Or.inr rfl)).up (Or.inl rfl)) (fun k hk => by rw [dz_up_k _ _ _ hk, dz_up_n _ _ _ (by omega)]; exact hA k hk) (dz_up_s _ _ _ _) (fun j h1 h2 => by rw [dz_up_n _ _ _ (by omega)]; exact sp_ext hl rfl j h1 h2) (fun j h1 h2 => by
        by_cases e : j = i
        · rw [e]; exact decide_eq_true hc23
        · exact hs j h1 (by omega))
  show ly_V κ b sz I 0 [(0, .ref (b + (5 + 3 * r))), (1, .ref (b + 1)), (2, .int (dz_i f0))] []
  refine dz_aload_n x.1 0 d_Rule_readLetters_0 rfl rfl ?_
  refine dz_iconst x.1 d_Rule_readLetters_1 ?_
  refine dz_puti x.1 (ly_Rule b hr) fl_Rule_41 fp_Rule_2 d_Rule_readLetters_2 ?_
  refine dz_iconst x.1 d_Rule_readLetters_5 ?_
  refine dz_istore_n (ls' := [(0, .ref (b + (5 + 3 * r))), (1, .ref (b + 1)), (2, .int (dz_i f0)), (3, .int (dz_i 0))]) x.1 d_Rule_readLetters_6 rfl hN (by decide) rfl ?_
  exact loop 6 0 (dz_up I (b + (5 + 3 * r)) 2 0) (by omega) (sp_fr.rf.up (Or.inl rfl)) (fun k hk => dz_up_k _ _ _ hk) (dz_up_s _ _ _ _) (fun j h1 h2 => by omega) (fun j h1 h2 => by omega)
set_option maxRecDepth 100000 in
set_option maxHeartbeats 4000000 in
theorem c_Rule_putCell (l : Launch) (D : va_G) (Dt : Nat → ClassId) (b sz : Nat) (I : dz_Hp) (r : Nat) (hr : r < 24) (k : Int) (hk : I (b + (5 + 3 * r)) 4 = k) (hk2 : 0 ≤ k ∧ k < 100) (p : Int) (hp : 0 ≤ p ∧ p < 64) : ly_M l D Dt b sz y_Rule_putCell b_Rule_putCell 2 (some .boolean) 1 [.ref (b + (5 + 3 * r)), .int (dz_i p)] I (fun v I' => ((p = 0 ∨ 3 ≤ k) ∧ v = some (.int (dz_i 0)) ∧ I' = I) ∨ (¬ (p = 0 ∨ 3 ≤ k) ∧ v = some (.int (dz_i 1)) ∧ I' = dz_up (dz_up I (b + (7 + 3 * r)) k p) (b + (5 + 3 * r)) 4 (k + 1))) := by
  refine ly_enter R_Rule (by decide) rfl (Nat.le_of_ble_eq_true rfl) (ly_cat _ 0 rfl) (fun κ x => ?_)
  have hN := ly_N x
  show ly_V κ b sz I 0 [(0, .ref (b + (5 + 3 * r))), (1, .int (dz_i p))] []
  refine dz_iload_n x.1 1 d_Rule_putCell_0 rfl rfl ?_
  refine dz_if_eq (tgt := 12) x.1 d_Rule_putCell_1 (by decide) (by omega) (fun hc1 => ?_) (fun hc1 => ?_)
  · refine dz_iconst x.1 d_Rule_putCell_12 ?_
    exact ly_iret x d_Rule_putCell_13 (dz_nbo (by omega)) (Or.inl ⟨by omega, rfl, rfl⟩)
  · refine dz_aload_n x.1 0 d_Rule_putCell_4 rfl rfl ?_
    refine dz_geti (z := k) x.1 (ly_Rule b hr) fl_Rule_54 d_Rule_putCell_5 hk ?_
    refine dz_iconst x.1 d_Rule_putCell_8 ?_
    refine dz_icmp_lt (tgt := 14) x.1 d_Rule_putCell_9 (by decide) (by omega) (by omega) (fun hc9 => ?_) (fun hc9 => ?_)
    · refine dz_aload_n x.1 0 d_Rule_putCell_14 rfl rfl ?_
      refine dz_getr x.1 (ly_Rule b hr) fl_Rule_15 (lr_Rule_3 b hr) d_Rule_putCell_15 ?_
      refine dz_aload_n x.1 0 d_Rule_putCell_18 rfl rfl ?_
      refine dz_geti (z := k) x.1 (ly_Rule b hr) fl_Rule_54 d_Rule_putCell_19 hk ?_
      refine dz_iload_n x.1 1 d_Rule_putCell_22 rfl rfl ?_
      refine dz_iast x.1 (ly_RCells b hr) (by decide) (by omega) d_Rule_putCell_23 ?_
      refine dz_aload_n x.1 0 d_Rule_putCell_24 rfl rfl ?_
      refine dz_dup x.1 d_Rule_putCell_25 rfl ?_
      refine dz_geti (z := k) x.1 (ly_Rule b hr) fl_Rule_54 d_Rule_putCell_26 (by rw [dz_up_n _ _ _ (by omega)]; exact hk) ?_
      refine dz_iconst x.1 d_Rule_putCell_29 ?_
      refine dz_iadd (z := k + 1) x.1 d_Rule_putCell_30 (by omega) ?_
      refine dz_puti x.1 (ly_Rule b hr) fl_Rule_54 fp_Rule_4 d_Rule_putCell_31 ?_
      refine dz_iconst x.1 d_Rule_putCell_34 ?_
      exact ly_iret x d_Rule_putCell_35 (dz_nbo (by omega)) (Or.inr ⟨by omega, rfl, rfl⟩)
    · refine dz_iconst x.1 d_Rule_putCell_12 ?_
      exact ly_iret x d_Rule_putCell_13 (dz_nbo (by omega)) (Or.inl ⟨by omega, rfl, rfl⟩)
set_option maxRecDepth 100000 in
set_option maxHeartbeats 4000000 in
theorem c_Rule_readCells (l : Launch) (D : va_G) (Dt : Nat → ClassId) (b sz : Nat) (I : dz_Hp) (r : Nat) (hr : r < 24) (n : Int) (g : Int → Int) (TI : sp_T b I n g) (f0 t0 : Int) (hf : 0 ≤ f0 ∧ f0 < 1000) (ht : 0 ≤ t0 ∧ t0 < 1000) : ly_M l D Dt b sz y_Rule_readCells b_Rule_readCells 8 (some .boolean) 2 [.ref (b + (5 + 3 * r)), .ref (b + 1), .int (dz_i f0), .int (dz_i t0)] I (fun v I' => v = some (.int (dz_i (if (sp_rc g (t0 - f0).toNat f0 0 0 (fun _ => 0)).isSome = true then 1 else 0))) ∧ sp_fr I I' (fun q => q = b + (5 + 3 * r) ∨ q = b + (7 + 3 * r)) ∧ (∀ k : Int, k ≠ 4 → I' (b + (5 + 3 * r)) k = I (b + (5 + 3 * r)) k) ∧ ∀ (cn : Int) (F : Int → Int), sp_rc g (t0 - f0).toNat f0 0 0 (fun _ => 0) = some (cn, F) → I' (b + (5 + 3 * r)) 4 = cn ∧ ∀ j : Int, 0 ≤ j → j < cn → I' (b + (7 + 3 * r)) j = F j) := by
  refine ly_enter R_Rule (by decide) rfl (Nat.le_of_ble_eq_true rfl) (ly_cat _ 0 rfl) (fun κ x => ?_)
  have hN := ly_N x
  have loop : ∀ (k9 : Nat) (i p k : Int) (F : Int → Int) (J : dz_Hp), (k9 = (t0 - i).toNat ∧ 0 ≤ i ∧ i < 1000) → (0 ≤ p ∧ p < 64) → (0 ≤ k ∧ k ≤ 3) → (sp_fr I J (fun q => q = b + (5 + 3 * r) ∨ q = b + (7 + 3 * r))) → (∀ k : Int, k ≠ 4 → J (b + (5 + 3 * r)) k = I (b + (5 + 3 * r)) k) → (J (b + (5 + 3 * r)) 4 = k) → (∀ j : Int, 0 ≤ j → j < k → J (b + (7 + 3 * r)) j = F j) → (sp_rc g k9 i p k F = sp_rc g (t0 - f0).toNat f0 0 0 (fun _ => 0)) → ly_V κ b sz J 11 [(0, .ref (b + (5 + 3 * r))), (1, .ref (b + 1)), (2, .int (dz_i f0)), (3, .int (dz_i t0)), (4, .int (dz_i p)), (5, .int (dz_i i))] [] := by
    intro k9
    induction k9 with
    | zero =>
      intro i p k F J hm hp hk hF hA hc hl hS
      have TJ : sp_T b J n g := TI.fr (hF _ (fun h => by rcases h with h | h <;> omega)) (hF _ (fun h => by rcases h with h | h <;> omega))
      refine dz_iload x.1 5 d_Rule_readCells_11 rfl ?_
      refine dz_iload_n x.1 3 d_Rule_readCells_13 rfl rfl ?_
      refine dz_icmp_ge (tgt := 98) x.1 d_Rule_readCells_14 (by decide) (by omega) (by omega) (fun hc14 => ?_) (fun hc14 => by exfalso; omega)
      refine dz_aload_n x.1 0 d_Rule_readCells_98 rfl rfl ?_
      refine dz_iload x.1 4 d_Rule_readCells_99 rfl ?_
      refine ly_callV (rest := []) x cl_Rule_57 (c_Rule_putCell l D Dt b sz J r hr k hc (by omega) p (by omega)) (by decide) (ly_Rule b hr) rfl rfl rfl rfl (Nat.le_of_ble_eq_true rfl) d_Rule_readCells_101 (fun v I' hp => ?_)
      rcases hp with ⟨hp, rfl, hpI⟩ | ⟨hp, rfl, hpI⟩
      · have hpI := hpI.symm
        subst hpI
        show ly_V κ b sz J 104 [(0, .ref (b + (5 + 3 * r))), (1, .ref (b + 1)), (2, .int (dz_i f0)), (3, .int (dz_i t0)), (4, .int (dz_i p)), (5, .int (dz_i i))] [.int (dz_i 0)]
        have hN9 : sp_rc g (t0 - f0).toNat f0 0 0 (fun _ => 0) = none := by rw [← hS]; simp only [sp_rc]; rw [if_pos hp]
        exact ly_iret x d_Rule_readCells_104 (dz_nbo (by omega)) ⟨by rw [hN9]; rfl, hF, hA, fun cn F' h9 => by rw [hN9] at h9; cases h9⟩
      · have hpI := hpI.symm
        subst hpI
        show ly_V κ b sz (dz_up (dz_up J (b + (7 + 3 * r)) k p) (b + (5 + 3 * r)) 4 (k + 1)) 104 [(0, .ref (b + (5 + 3 * r))), (1, .ref (b + 1)), (2, .int (dz_i f0)), (3, .int (dz_i t0)), (4, .int (dz_i p)), (5, .int (dz_i i))] [.int (dz_i 1)]
        have hN9 : sp_rc g (t0 - f0).toNat f0 0 0 (fun _ => 0) = some (k + 1, dz_u F k p) := by rw [← hS]; simp only [sp_rc]; rw [if_neg hp]
        exact ly_iret x d_Rule_readCells_104 (dz_nbo (by omega)) ⟨by rw [hN9]; rfl, (hF.up (Or.inr rfl)).up (Or.inl rfl), fun k hk => by rw [dz_up_k _ _ _ hk, dz_up_n _ _ _ (by omega)]; exact hA k hk, fun cn F' h9 => by
          rw [hN9] at h9; cases h9
          exact ⟨dz_up_s _ _ _ _, fun j h1 h2 => by rw [dz_up_n _ _ _ (by omega)]; exact sp_ext (F := dz_u F k p) (fun j h3 h4 => by rw [dz_u_n _ _ (by omega)]; exact hl j h3 h4) (by rw [dz_u_s]) j h1 h2⟩⟩
    | succ k9 ih =>
      intro i p k F J hm hp hk hF hA hc hl hS
      have TJ : sp_T b J n g := TI.fr (hF _ (fun h => by rcases h with h | h <;> omega)) (hF _ (fun h => by rcases h with h | h <;> omega))
      have hdr := sp_dot_rng (g i)
      refine dz_iload x.1 5 d_Rule_readCells_11 rfl ?_
      refine dz_iload_n x.1 3 d_Rule_readCells_13 rfl rfl ?_
      refine dz_icmp_ge (tgt := 98) x.1 d_Rule_readCells_14 (by decide) (by omega) (by omega) (fun hc14 => by exfalso; omega) (fun hc14 => ?_)
      refine dz_aload_n x.1 1 d_Rule_readCells_17 rfl rfl ?_
      refine dz_iload x.1 5 d_Rule_readCells_18 rfl ?_
      refine ly_callV (rest := []) x cl_Rule_21 (c_chAt l D Dt b sz J n g TJ i (by omega)) (by decide) (ly_Typed b) rfl rfl rfl rfl (Nat.le_of_ble_eq_true rfl) d_Rule_readCells_20 (fun v I' hp20 => ?_)
      obtain ⟨rfl, hp20I⟩ := hp20
      have hp20I := hp20I.symm
      subst hp20I
      have hhp20 := TJ.rng i
      show ly_V κ b sz J 23 [(0, .ref (b + (5 + 3 * r))), (1, .ref (b + 1)), (2, .int (dz_i f0)), (3, .int (dz_i t0)), (4, .int (dz_i p)), (5, .int (dz_i i))] [.int (dz_i (g i))]
      refine dz_istore (ls' := [(0, .ref (b + (5 + 3 * r))), (1, .ref (b + 1)), (2, .int (dz_i f0)), (3, .int (dz_i t0)), (4, .int (dz_i p)), (5, .int (dz_i i)), (6, .int (dz_i (g i)))]) x.1 d_Rule_readCells_23 hN (by decide) rfl ?_
      refine dz_iload x.1 6 d_Rule_readCells_25 rfl ?_
      refine dz_bipush x.1 d_Rule_readCells_27 (by decide) ?_
      refine dz_icmp_ne (tgt := 49) x.1 d_Rule_readCells_29 (by decide) (by omega) (by omega) (fun hc29 => ?_) (fun hc29 => ?_)
      · refine dz_iload x.1 6 d_Rule_readCells_49 rfl ?_
        refine dz_bipush x.1 d_Rule_readCells_51 (by decide) ?_
        refine dz_icmp_lt (tgt := 73) x.1 d_Rule_readCells_53 (by decide) (by omega) (by omega) (fun hc53 => ?_) (fun hc53 => ?_)
        · have hd0 := sp_dot_no (c := g i) (by omega)
          refine dz_iconst x.1 d_Rule_readCells_73 ?_
          refine dz_istore (ls' := [(0, .ref (b + (5 + 3 * r))), (1, .ref (b + 1)), (2, .int (dz_i f0)), (3, .int (dz_i t0)), (4, .int (dz_i p)), (5, .int (dz_i i)), (6, .int (dz_i (g i))), (7, .int (dz_i 0))]) x.1 d_Rule_readCells_74 hN (by decide) rfl ?_
          refine dz_iload x.1 7 d_Rule_readCells_76 rfl ?_
          refine dz_iload x.1 4 d_Rule_readCells_78 rfl ?_
          refine dz_icmp_gt (tgt := 85) x.1 d_Rule_readCells_80 (by decide) (by omega) (by omega) (fun hc80 => by exfalso; omega) (fun hc80 => ?_)
          refine dz_iconst x.1 d_Rule_readCells_83 ?_
          have hN9 : sp_rc g (t0 - f0).toNat f0 0 0 (fun _ => 0) = none := by rw [← hS]; simp only [sp_rc]; rw [if_neg (by omega), if_pos (by omega)]
          exact ly_iret x d_Rule_readCells_84 (dz_nbo (by omega)) ⟨by rw [hN9]; rfl, hF, hA, fun cn F' h9 => by rw [hN9] at h9; cases h9⟩
        · refine dz_iload x.1 6 d_Rule_readCells_56 rfl ?_
          refine dz_bipush x.1 d_Rule_readCells_58 (by decide) ?_
          refine dz_icmp_gt (tgt := 73) x.1 d_Rule_readCells_60 (by decide) (by omega) (by omega) (fun hc60 => ?_) (fun hc60 => ?_)
          · have hd0 := sp_dot_no (c := g i) (by omega)
            refine dz_iconst x.1 d_Rule_readCells_73 ?_
            refine dz_istore (ls' := [(0, .ref (b + (5 + 3 * r))), (1, .ref (b + 1)), (2, .int (dz_i f0)), (3, .int (dz_i t0)), (4, .int (dz_i p)), (5, .int (dz_i i)), (6, .int (dz_i (g i))), (7, .int (dz_i 0))]) x.1 d_Rule_readCells_74 hN (by decide) rfl ?_
            refine dz_iload x.1 7 d_Rule_readCells_76 rfl ?_
            refine dz_iload x.1 4 d_Rule_readCells_78 rfl ?_
            refine dz_icmp_gt (tgt := 85) x.1 d_Rule_readCells_80 (by decide) (by omega) (by omega) (fun hc80 => by exfalso; omega) (fun hc80 => ?_)
            refine dz_iconst x.1 d_Rule_readCells_83 ?_
            have hN9 : sp_rc g (t0 - f0).toNat f0 0 0 (fun _ => 0) = none := by rw [← hS]; simp only [sp_rc]; rw [if_neg (by omega), if_pos (by omega)]
            exact ly_iret x d_Rule_readCells_84 (dz_nbo (by omega)) ⟨by rw [hN9]; rfl, hF, hA, fun cn F' h9 => by rw [hN9] at h9; cases h9⟩
          · refine dz_iconst x.1 d_Rule_readCells_63 ?_
            refine dz_iload x.1 6 d_Rule_readCells_64 rfl ?_
            refine dz_bipush x.1 d_Rule_readCells_66 (by decide) ?_
            refine dz_isub (z := (g i) - 49) x.1 d_Rule_readCells_68 (by omega) ?_
            refine dz_ishl (z := (sp_dot (g i))) x.1 d_Rule_readCells_69 (sp_dot_sh (by omega)) ?_
            refine dz_goto (tgt := 74) x.1 d_Rule_readCells_70 (by decide) ?_
            refine dz_istore (ls' := [(0, .ref (b + (5 + 3 * r))), (1, .ref (b + 1)), (2, .int (dz_i f0)), (3, .int (dz_i t0)), (4, .int (dz_i p)), (5, .int (dz_i i)), (6, .int (dz_i (g i))), (7, .int (dz_i (sp_dot (g i))))]) x.1 d_Rule_readCells_74 hN (by decide) rfl ?_
            refine dz_iload x.1 7 d_Rule_readCells_76 rfl ?_
            refine dz_iload x.1 4 d_Rule_readCells_78 rfl ?_
            refine dz_icmp_gt (tgt := 85) x.1 d_Rule_readCells_80 (by decide) (by omega) (by omega) (fun hc80 => ?_) (fun hc80 => ?_)
            · refine dz_iload x.1 4 d_Rule_readCells_85 rfl ?_
              refine dz_iload x.1 7 d_Rule_readCells_87 rfl ?_
              refine dz_iadd (z := p + (sp_dot (g i))) x.1 d_Rule_readCells_89 (by omega) ?_
              refine dz_istore (ls' := [(0, .ref (b + (5 + 3 * r))), (1, .ref (b + 1)), (2, .int (dz_i f0)), (3, .int (dz_i t0)), (4, .int (dz_i (p + (sp_dot (g i))))), (5, .int (dz_i i)), (6, .int (dz_i (g i))), (7, .int (dz_i (sp_dot (g i))))]) x.1 d_Rule_readCells_90 hN (by decide) rfl ?_
              refine dz_iinc (z := i + 1) (ls' := [(0, .ref (b + (5 + 3 * r))), (1, .ref (b + 1)), (2, .int (dz_i f0)), (3, .int (dz_i t0)), (4, .int (dz_i (p + (sp_dot (g i))))), (5, .int (dz_i (i + 1))), (6, .int (dz_i (g i))), (7, .int (dz_i (sp_dot (g i))))]) x.1 5 d_Rule_readCells_92 rfl hN (by decide) (by omega) rfl ?_
              refine dz_goto (tgt := 11) x.1 d_Rule_readCells_95 (by decide) ?_
              refine dz_take 6 (ls' := [(0, .ref (b + (5 + 3 * r))), (1, .ref (b + 1)), (2, .int (dz_i f0)), (3, .int (dz_i t0)), (4, .int (dz_i (p + (sp_dot (g i))))), (5, .int (dz_i (i + 1)))]) rfl ?_
              exact ih (i + 1) (p + sp_dot (g i)) k F J (by omega) (by have h5 : sp_dot (g i) = 0 ∨ sp_dot (g i) = 1 ∨ sp_dot (g i) = 2 ∨ sp_dot (g i) = 4 ∨ sp_dot (g i) = 8 ∨ sp_dot (g i) = 16 ∨ sp_dot (g i) = 32 := (by unfold sp_dot; (repeat' split) <;> omega); omega) hk hF hA hc hl (by rw [← hS]; simp only [sp_rc]; rw [if_neg (by omega), if_neg (by omega)])
            · refine dz_iconst x.1 d_Rule_readCells_83 ?_
              have hN9 : sp_rc g (t0 - f0).toNat f0 0 0 (fun _ => 0) = none := by rw [← hS]; simp only [sp_rc]; rw [if_neg (by omega), if_pos (by omega)]
              exact ly_iret x d_Rule_readCells_84 (dz_nbo (by omega)) ⟨by rw [hN9]; rfl, hF, hA, fun cn F' h9 => by rw [hN9] at h9; cases h9⟩
      · refine dz_aload_n x.1 0 d_Rule_readCells_32 rfl rfl ?_
        refine dz_iload x.1 4 d_Rule_readCells_33 rfl ?_
        refine ly_callV (rest := []) x cl_Rule_57 (c_Rule_putCell l D Dt b sz J r hr k hc (by omega) p (by omega)) (by decide) (ly_Rule b hr) rfl rfl rfl rfl (Nat.le_of_ble_eq_true rfl) d_Rule_readCells_35 (fun v I' hp => ?_)
        rcases hp with ⟨hp, rfl, hpI⟩ | ⟨hp, rfl, hpI⟩
        · have hpI := hpI.symm
          subst hpI
          show ly_V κ b sz J 38 [(0, .ref (b + (5 + 3 * r))), (1, .ref (b + 1)), (2, .int (dz_i f0)), (3, .int (dz_i t0)), (4, .int (dz_i p)), (5, .int (dz_i i)), (6, .int (dz_i (g i)))] [.int (dz_i 0)]
          refine dz_if_ne (tgt := 43) x.1 d_Rule_readCells_38 (by decide) (by omega) (fun hc38 => by exfalso; omega) (fun hc38 => ?_)
          refine dz_iconst x.1 d_Rule_readCells_41 ?_
          have hN9 : sp_rc g (t0 - f0).toNat f0 0 0 (fun _ => 0) = none := by rw [← hS]; simp only [sp_rc]; rw [if_pos (by omega), if_pos hp]
          exact ly_iret x d_Rule_readCells_42 (dz_nbo (by omega)) ⟨by rw [hN9]; rfl, hF, hA, fun cn F' h9 => by rw [hN9] at h9; cases h9⟩
        · have hpI := hpI.symm
          subst hpI
          show ly_V κ b sz (dz_up (dz_up J (b + (7 + 3 * r)) k p) (b + (5 + 3 * r)) 4 (k + 1)) 38 [(0, .ref (b + (5 + 3 * r))), (1, .ref (b + 1)), (2, .int (dz_i f0)), (3, .int (dz_i t0)), (4, .int (dz_i p)), (5, .int (dz_i i)), (6, .int (dz_i (g i)))] [.int (dz_i 1)]
          refine dz_if_ne (tgt := 43) x.1 d_Rule_readCells_38 (by decide) (by omega) (fun hc38 => ?_) (fun hc38 => by exfalso; omega)
          refine dz_iconst x.1 d_Rule_readCells_43 ?_
          refine dz_istore (ls' := [(0, .ref (b + (5 + 3 * r))), (1, .ref (b + 1)), (2, .int (dz_i f0)), (3, .int (dz_i t0)), (4, .int (dz_i 0)), (5, .int (dz_i i)), (6, .int (dz_i (g i)))]) x.1 d_Rule_readCells_44 hN (by decide) rfl ?_
          refine dz_goto (tgt := 92) x.1 d_Rule_readCells_46 (by decide) ?_
          refine dz_iinc (z := i + 1) (ls' := [(0, .ref (b + (5 + 3 * r))), (1, .ref (b + 1)), (2, .int (dz_i f0)), (3, .int (dz_i t0)), (4, .int (dz_i 0)), (5, .int (dz_i (i + 1))), (6, .int (dz_i (g i)))]) x.1 5 d_Rule_readCells_92 rfl hN (by decide) (by omega) rfl ?_
          refine dz_goto (tgt := 11) x.1 d_Rule_readCells_95 (by decide) ?_
          refine dz_take 6 (ls' := [(0, .ref (b + (5 + 3 * r))), (1, .ref (b + 1)), (2, .int (dz_i f0)), (3, .int (dz_i t0)), (4, .int (dz_i 0)), (5, .int (dz_i (i + 1)))]) rfl ?_
          exact ih (i + 1) 0 (k + 1) (dz_u F k p) (dz_up (dz_up J (b + (7 + 3 * r)) k p) (b + (5 + 3 * r)) 4 (k + 1)) (by omega) (by omega) (by omega) ((hF.up (Or.inr rfl)).up (Or.inl rfl)) (fun k hk => by rw [dz_up_k _ _ _ hk, dz_up_n _ _ _ (by omega)]; exact hA k hk) (dz_up_s _ _ _ _) (fun j h1 h2 => by rw [dz_up_n _ _ _ (by omega)]; exact sp_ext (F := dz_u F k p) (fun j h3 h4 => by rw [dz_u_n _ _ (by omega)]; exact hl j h3 h4) (by rw [dz_u_s]) j h1 h2) (by rw [← hS]; simp only [sp_rc]; rw [if_pos (by omega), if_neg hp])
  show ly_V κ b sz I 0 [(0, .ref (b + (5 + 3 * r))), (1, .ref (b + 1)), (2, .int (dz_i f0)), (3, .int (dz_i t0))] []
  refine dz_aload_n x.1 0 d_Rule_readCells_0 rfl rfl ?_
  refine dz_iconst x.1 d_Rule_readCells_1 ?_
  refine dz_puti x.1 (ly_Rule b hr) fl_Rule_54 fp_Rule_4 d_Rule_readCells_2 ?_
  refine dz_iconst x.1 d_Rule_readCells_5 ?_
  refine dz_istore (ls' := [(0, .ref (b + (5 + 3 * r))), (1, .ref (b + 1)), (2, .int (dz_i f0)), (3, .int (dz_i t0)), (4, .int (dz_i 0))]) x.1 d_Rule_readCells_6 hN (by decide) rfl ?_
  refine dz_iload_n x.1 2 d_Rule_readCells_8 rfl rfl ?_
  refine dz_istore (ls' := [(0, .ref (b + (5 + 3 * r))), (1, .ref (b + 1)), (2, .int (dz_i f0)), (3, .int (dz_i t0)), (4, .int (dz_i 0)), (5, .int (dz_i f0))]) x.1 d_Rule_readCells_9 hN (by decide) rfl ?_
  exact loop (t0 - f0).toNat f0 0 0 (fun _ => 0) (dz_up I (b + (5 + 3 * r)) 4 0) (by omega) (by omega) (by omega) (sp_fr.rf.up (Or.inl rfl)) (fun k hk => dz_up_k _ _ _ hk) (dz_up_s _ _ _ _) (fun j h1 h2 => by omega) rfl
