def sp_MT (b : Nat) (J : dz_Hp) (n : Int) (g : Int → Int) : Prop := J (b + 130) 3 = n ∧ sp_tx n g ∧ ∀ j : Int, 0 ≤ j → j < n → J (b + 131) j = g j
def sp_mr (b r : Nat) (J : dz_Hp) (u : sp_Ru) : Prop := J (b + 132) (r : Int) = sp_k u ∧ J (b + 133) (r : Int) = sp_ln u ∧ J (b + 135) (r : Int) = sp_cn u ∧ (∀ j : Int, 0 ≤ j → j < sp_ln u → J (b + 134) (6 * (r : Int) + j) = sp_lt u j) ∧ (∀ j : Int, 0 ≤ j → j < sp_cn u → J (b + 136) (3 * (r : Int) + j) = sp_ce u j)
def sp_MR (b : Nat) (J : dz_Hp) (c : Nat) (S : Nat → sp_Ru) : Prop := J (b + 130) 5 = (c : Int) ∧ c ≤ 24 ∧ ∀ r : Nat, r < c → sp_mr b r J (S r) ∧ sp_rwf (S r)
theorem sp_tx.rng {n : Int} {g : Int → Int} (h : sp_tx n g) (j : Int) : 0 ≤ g j ∧ g j ≤ 126 := by
  by_cases c : 0 ≤ j ∧ j < n
  · have := h.2.2 j c; omega
  · have := h.2.1 j (by omega); omega
theorem sp_MT.fr {b : Nat} {I J : dz_Hp} {n : Int} {g : Int → Int} (h : sp_MT b I n g) (h1 : J (b + 130) 3 = I (b + 130) 3) (h2 : J (b + 131) = I (b + 131)) : sp_MT b J n g := by unfold sp_MT; rw [h1, h2]; exact h
theorem sp_MR.fr {b : Nat} {I J : dz_Hp} {c : Nat} {S : Nat → sp_Ru} (h : sp_MR b I c S) (h1 : J (b + 130) 5 = I (b + 130) 5) (h2 : ∀ q, b + 132 ≤ q → q ≤ b + 136 → J q = I q) : sp_MR b J c S := by
  refine ⟨by rw [h1]; exact h.1, h.2.1, fun r hr => ?_⟩
  have := h.2.2 r hr
  unfold sp_mr at this ⊢
  rw [h2 _ (by omega) (by omega), h2 _ (by omega) (by omega), h2 (b + 135) (by omega) (by omega), h2 (b + 134) (by omega) (by omega), h2 (b + 136) (by omega) (by omega)]
  exact this
/-- the highest dot of a cell -/
def sp_hb (p : Int) : Int := if p = 0 then 0 else if p < 2 then 1 else if p < 4 then 2 else if p < 8 then 3 else if p < 16 then 4 else if p < 32 then 5 else 6
theorem sp_hb_rng (p : Int) : 0 ≤ sp_hb p ∧ sp_hb p ≤ 6 := by unfold sp_hb; (repeat' split) <;> omega
theorem sp_hb_le {p c : Int} (hp : 0 ≤ p ∧ p < 64) (hc : 49 ≤ c ∧ c ≤ 54) : c - 48 ≤ sp_hb p ↔ sp_dot c ≤ p := by
  have h5 : (c = 49 ∧ sp_dot c = 1) ∨ (c = 50 ∧ sp_dot c = 2) ∨ (c = 51 ∧ sp_dot c = 4) ∨ (c = 52 ∧ sp_dot c = 8) ∨ (c = 53 ∧ sp_dot c = 16) ∨ (c = 54 ∧ sp_dot c = 32) := by unfold sp_dot; (repeat' split) <;> omega
  unfold sp_hb
  (repeat' split) <;> omega
theorem sp_hb_add {p c : Int} (hp : 0 ≤ p ∧ p < 64) (hc : 49 ≤ c ∧ c ≤ 54) (h : ¬ sp_dot c ≤ p) : sp_hb (p + sp_dot c) = c - 48 ∧ p + sp_dot c < 64 := by
  have h5 : (c = 49 ∧ sp_dot c = 1) ∨ (c = 50 ∧ sp_dot c = 2) ∨ (c = 51 ∧ sp_dot c = 4) ∨ (c = 52 ∧ sp_dot c = 8) ∨ (c = 53 ∧ sp_dot c = 16) ∨ (c = 54 ∧ sp_dot c = 32) := by unfold sp_dot; (repeat' split) <;> omega
  unfold sp_hb
  constructor
  · (repeat' split) <;> omega
  · omega
/-- where a rule's text ends -/
def sp_end (n : Int) (g : Int → Int) (t0 : Int) : Prop := t0 = n ∨ g t0 = 59
theorem sp_end.at {n : Int} {g : Int → Int} {t0 : Int} (h : sp_end n g t0) (hx : sp_tx n g) : g t0 = 59 ∨ g t0 = 0 := by
  rcases h with h | h
  · right; exact hx.2.1 t0 (by omega)
  · left; exact h
theorem sp_run_end {n : Int} {g : Int → Int} {t0 f0 : Int} (h : sp_end n g t0) (hx : sp_tx n g) (hf : f0 + 2 ≤ t0) : f0 + 2 + sp_run (sp_sm g (f0 + 2)) 0 6 ≤ t0 := by
  obtain ⟨r1, r2, r3, r4⟩ := sp_run_spec (sp_sm g (f0 + 2)) 6 0
  by_cases c : f0 + 2 + sp_run (sp_sm g (f0 + 2)) 0 6 ≤ t0
  · exact c
  · have h1 := of_decide_eq_true (r3 (t0 - (f0 + 2)) (by omega) (by omega))
    rw [show f0 + 2 + (t0 - (f0 + 2)) = t0 by omega] at h1
    have := h.at hx
    omega
theorem sp_parse_short {n : Int} {g : Int → Int} {t0 f0 : Int} (h : sp_end n g t0) (hx : sp_tx n g) (hf : f0 ≤ t0) (hs : t0 - f0 < 6) : sp_parse g f0 t0 = none := by
  have he := h.at hx
  unfold sp_parse
  split
  · rfl
  · rename_i h1
    split
    · rfl
    · rename_i h2
      have hk : ¬ f0 = t0 := by
        intro e
        apply h1; left
        rw [e]
        unfold sp_ix; rw [if_pos rfl]
        rcases he with he | he <;> (rw [he]; decide)
      have hk2 : ¬ f0 + 1 = t0 := by
        intro e; apply h1; right; rw [e]; omega
      have hr := sp_run_end h hx (f0 := f0) (by omega)
      obtain ⟨r1, r2, -, -⟩ := sp_run_spec (sp_sm g (f0 + 2)) 6 0
      have hk3 : ¬ f0 + sp_run (sp_sm g (f0 + 2)) 0 6 + 2 = t0 := by
        intro e; apply h2; right; rw [e]; omega
      have hz : (t0 - (f0 + sp_run (sp_sm g (f0 + 2)) 0 6 + 3)).toNat = 0 := by omega
      rw [hz]
      simp only [sp_rc]
      rw [if_pos (Or.inl trivial)]
set_option maxRecDepth 100000 in
set_option maxHeartbeats 4000000 in
theorem c_Model_readCells (l : Launch) (D : va_G) (Dt : Nat → ClassId) (b sz : Nat) (I : dz_Hp) (n : Int) (g : Int → Int) (TI : sp_MT b I n g) (c : Nat) (hcn : I (b + 130) 5 = (c : Int)) (hc24 : c < 24) (f0 t0 : Int) (hf : 0 ≤ f0 ∧ f0 ≤ t0) (ht : t0 ≤ n) : ly_M l D Dt b sz y_Model_readCells b_Model_readCells 8 (some .boolean) 1 [.ref (b + 130), .int (dz_i f0), .int (dz_i t0)] I (fun v I' => v = some (.int (dz_i (if (sp_rc g (t0 - f0).toNat f0 0 0 (fun _ => 0)).isSome = true then 1 else 0))) ∧ sp_fr I I' (fun q => q = b + 135 ∨ q = b + 136) ∧ (∀ j : Int, j ≠ (c : Int) → I' (b + 135) j = I (b + 135) j) ∧ (∀ j : Int, j < 3 * (c : Int) → I' (b + 136) j = I (b + 136) j) ∧ ∀ (cn : Int) (F : Int → Int), sp_rc g (t0 - f0).toNat f0 0 0 (fun _ => 0) = some (cn, F) → I' (b + 135) (c : Int) = cn ∧ ∀ j : Int, 0 ≤ j → j < cn → I' (b + 136) (3 * (c : Int) + j) = F j) := by
  refine ly_enter R_Model (by decide) rfl (Nat.le_of_ble_eq_true rfl) (ly_cat _ 0 rfl) (fun κ x => ?_)
  have hN := ly_N x
  have hn9 := TI.2.1.1
  have loop : ∀ (k9 : Nat) (i p k : Int) (F : Int → Int) (J : dz_Hp), (i + (k9 : Int) = t0 ∧ f0 ≤ i) → (0 ≤ p ∧ p < 64) → (0 ≤ k ∧ k ≤ 3) → (sp_fr I J (fun q => q = b + 135 ∨ q = b + 136)) → (∀ j : Int, J (b + 135) j = I (b + 135) j) → (∀ j : Int, j < 3 * (c : Int) → J (b + 136) j = I (b + 136) j) → (∀ j : Int, 0 ≤ j → j < k → J (b + 136) (3 * (c : Int) + j) = F j) → (sp_rc g k9 i p k F = sp_rc g (t0 - f0).toNat f0 0 0 (fun _ => 0)) → ly_V κ b sz J 11 [(0, .ref (b + 130)), (1, .int (dz_i f0)), (2, .int (dz_i t0)), (3, .int (dz_i k)), (4, .int (dz_i p)), (5, .int (dz_i (sp_hb p))), (6, .int (dz_i i))] [] := by
    intro k9
    induction k9 with
    | zero =>
      intro i p k F J hm hp hk hF hA hB hl hS
      have TJ : sp_MT b J n g := TI.fr (by rw [hF _ (fun h => by rcases h with h | h <;> omega)]) (hF _ (fun h => by rcases h with h | h <;> omega))
      have hgi := TI.2.1.rng i
      have hhb := sp_hb_rng p
      have hdr := sp_dot_rng (g i)
      refine dz_iload x.1 6 d_Model_readCells_11 rfl ?_
      refine dz_iload_n x.1 2 d_Model_readCells_13 rfl rfl ?_
      refine dz_icmp_gt (tgt := 129) x.1 d_Model_readCells_14 (by decide) (by omega) (by omega) (fun hc14 => by exfalso; omega) (fun hc14 => ?_)
      refine dz_iload x.1 6 d_Model_readCells_17 rfl ?_
      refine dz_iload_n x.1 2 d_Model_readCells_19 rfl rfl ?_
      refine dz_icmp_eq (tgt := 35) x.1 d_Model_readCells_20 (by decide) (by omega) (by omega) (fun hc20 => ?_) (fun hc20 => by exfalso; omega)
      refine dz_iload x.1 4 d_Model_readCells_35 rfl ?_
      refine dz_if_eq (tgt := 45) x.1 d_Model_readCells_37 (by decide) (by omega) (fun hc37 => ?_) (fun hc37 => ?_)
      · refine dz_iconst x.1 d_Model_readCells_45 ?_
        have hN9 : sp_rc g (t0 - f0).toNat f0 0 0 (fun _ => 0) = none := by rw [← hS]; simp only [sp_rc]; rw [if_pos (by omega)]
        exact ly_iret x d_Model_readCells_46 (dz_nbo (by omega)) ⟨by rw [hN9]; rfl, hF, fun j _ => hA j, hB, fun cn F' h9 => by rw [hN9] at h9; cases h9⟩
      · refine dz_iload_n x.1 3 d_Model_readCells_40 rfl rfl ?_
        refine dz_iconst x.1 d_Model_readCells_41 ?_
        refine dz_icmp_ne (tgt := 47) x.1 d_Model_readCells_42 (by decide) (by omega) (by omega) (fun hc42 => ?_) (fun hc42 => ?_)
        · refine dz_aload_n x.1 0 d_Model_readCells_47 rfl rfl ?_
          refine dz_getr x.1 (ly_Model b) fl_Model_26 (lr_Model_10 b) d_Model_readCells_48 ?_
          refine dz_iconst x.1 d_Model_readCells_51 ?_
          refine dz_aload_n x.1 0 d_Model_readCells_52 rfl rfl ?_
          refine dz_geti (z := (c : Int)) x.1 (ly_Model b) fl_Model_83 d_Model_readCells_53 (by rw [hF _ (fun h => by rcases h with h | h <;> omega)]; exact hcn) ?_
          refine dz_imul (z := 3 * (c : Int)) x.1 d_Model_readCells_56 (by omega) ?_
          refine dz_iload_n x.1 3 d_Model_readCells_57 rfl rfl ?_
          refine dz_iadd (z := 3 * (c : Int) + k) x.1 d_Model_readCells_58 (by omega) ?_
          refine dz_iload x.1 4 d_Model_readCells_59 rfl ?_
          refine dz_iast x.1 (ly_MRuleCells b) (by decide) (by omega) d_Model_readCells_61 ?_
          refine dz_iinc (z := k + 1) (ls' := [(0, .ref (b + 130)), (1, .int (dz_i f0)), (2, .int (dz_i t0)), (3, .int (dz_i (k + 1))), (4, .int (dz_i p)), (5, .int (dz_i (sp_hb p))), (6, .int (dz_i i))]) x.1 3 d_Model_readCells_62 rfl hN (by decide) (by omega) rfl ?_
          refine dz_iconst x.1 d_Model_readCells_65 ?_
          refine dz_istore (ls' := [(0, .ref (b + 130)), (1, .int (dz_i f0)), (2, .int (dz_i t0)), (3, .int (dz_i (k + 1))), (4, .int (dz_i 0)), (5, .int (dz_i (sp_hb p))), (6, .int (dz_i i))]) x.1 d_Model_readCells_66 hN (by decide) rfl ?_
          refine dz_iconst x.1 d_Model_readCells_68 ?_
          refine dz_istore (ls' := [(0, .ref (b + 130)), (1, .int (dz_i f0)), (2, .int (dz_i t0)), (3, .int (dz_i (k + 1))), (4, .int (dz_i 0)), (5, .int (dz_i 0)), (6, .int (dz_i i))]) x.1 d_Model_readCells_69 hN (by decide) rfl ?_
          refine dz_goto (tgt := 123) x.1 d_Model_readCells_71 (by decide) ?_
          refine dz_iinc (z := i + 1) (ls' := [(0, .ref (b + 130)), (1, .int (dz_i f0)), (2, .int (dz_i t0)), (3, .int (dz_i (k + 1))), (4, .int (dz_i 0)), (5, .int (dz_i 0)), (6, .int (dz_i (i + 1)))]) x.1 6 d_Model_readCells_123 rfl hN (by decide) (by omega) rfl ?_
          refine dz_goto (tgt := 11) x.1 d_Model_readCells_126 (by decide) ?_
          refine dz_iload x.1 6 d_Model_readCells_11 rfl ?_
          refine dz_iload_n x.1 2 d_Model_readCells_13 rfl rfl ?_
          refine dz_icmp_gt (tgt := 129) x.1 d_Model_readCells_14 (by decide) (by omega) (by omega) (fun hc14 => ?_) (fun hc14 => by exfalso; omega)
          refine dz_aload_n x.1 0 d_Model_readCells_129 rfl rfl ?_
          refine dz_getr x.1 (ly_Model b) fl_Model_23 (lr_Model_9 b) d_Model_readCells_130 ?_
          refine dz_aload_n x.1 0 d_Model_readCells_133 rfl rfl ?_
          refine dz_geti (z := (c : Int)) x.1 (ly_Model b) fl_Model_83 d_Model_readCells_134 (by rw [dz_up_n _ _ _ (by omega)]; exact (by rw [hF _ (fun h => by rcases h with h | h <;> omega)]; exact hcn)) ?_
          refine dz_iload_n x.1 3 d_Model_readCells_137 rfl rfl ?_
          refine dz_iast x.1 (ly_MCellCount b) (by decide) (by omega) d_Model_readCells_138 ?_
          refine dz_iconst x.1 d_Model_readCells_139 ?_
          have hN9 : sp_rc g (t0 - f0).toNat f0 0 0 (fun _ => 0) = some (k + 1, dz_u F k p) := by rw [← hS]; simp only [sp_rc]; rw [if_neg (by omega)]
          exact ly_iret x d_Model_readCells_140 (dz_nbo (by omega)) ⟨by rw [hN9]; rfl, (hF.up (Or.inr rfl)).up (Or.inl rfl), fun j hj => by rw [dz_up_k _ _ _ hj, dz_up_n _ _ _ (by omega)]; exact hA j, fun j hj => by rw [dz_up_n _ _ _ (by omega), dz_up_k _ _ _ (by omega)]; exact hB j hj, fun cn F' h9 => by
            rw [hN9] at h9; cases h9
            refine ⟨dz_up_s _ _ _ _, fun j h1 h2 => ?_⟩
            rw [dz_up_n _ _ _ (by omega)]
            exact ((fun j h1 h2 => by
            by_cases e : j = k
            · rw [e, dz_up_s, dz_u_s]
            · rw [dz_up_k _ _ _ (by omega), dz_u_n _ _ e]; exact hl j h1 (by omega)) : ∀ j : Int, 0 ≤ j → j < k + 1 → dz_up J (b + 136) (3 * (c : Int) + k) p (b + 136) (3 * (c : Int) + j) = dz_u F k p j) j h1 h2⟩
        · refine dz_iconst x.1 d_Model_readCells_45 ?_
          have hN9 : sp_rc g (t0 - f0).toNat f0 0 0 (fun _ => 0) = none := by rw [← hS]; simp only [sp_rc]; rw [if_pos (by omega)]
          exact ly_iret x d_Model_readCells_46 (dz_nbo (by omega)) ⟨by rw [hN9]; rfl, hF, fun j _ => hA j, hB, fun cn F' h9 => by rw [hN9] at h9; cases h9⟩
    | succ k9 ih =>
      intro i p k F J hm hp hk hF hA hB hl hS
      have TJ : sp_MT b J n g := TI.fr (by rw [hF _ (fun h => by rcases h with h | h <;> omega)]) (hF _ (fun h => by rcases h with h | h <;> omega))
      have hgi := TI.2.1.rng i
      have hhb := sp_hb_rng p
      have hdr := sp_dot_rng (g i)
      refine dz_iload x.1 6 d_Model_readCells_11 rfl ?_
      refine dz_iload_n x.1 2 d_Model_readCells_13 rfl rfl ?_
      refine dz_icmp_gt (tgt := 129) x.1 d_Model_readCells_14 (by decide) (by omega) (by omega) (fun hc14 => by exfalso; omega) (fun hc14 => ?_)
      refine dz_iload x.1 6 d_Model_readCells_17 rfl ?_
      refine dz_iload_n x.1 2 d_Model_readCells_19 rfl rfl ?_
      refine dz_icmp_eq (tgt := 35) x.1 d_Model_readCells_20 (by decide) (by omega) (by omega) (fun hc20 => by exfalso; omega) (fun hc20 => ?_)
      refine dz_aload_n x.1 0 d_Model_readCells_23 rfl rfl ?_
      refine dz_getr x.1 (ly_Model b) fl_Model_7 (lr_Model_4 b) d_Model_readCells_24 ?_
      refine dz_iload x.1 6 d_Model_readCells_27 rfl ?_
      refine dz_cald (w := (g i)) x.1 (ly_MTyped b) (by decide) (by omega) d_Model_readCells_29 (TJ.2.2 i (by omega) (by omega)) ?_
      refine dz_bipush x.1 d_Model_readCells_30 (by decide) ?_
      refine dz_icmp_ne (tgt := 74) x.1 d_Model_readCells_32 (by decide) (by omega) (by omega) (fun hc32 => ?_) (fun hc32 => ?_)
      · refine dz_aload_n x.1 0 d_Model_readCells_74 rfl rfl ?_
        refine dz_getr x.1 (ly_Model b) fl_Model_7 (lr_Model_4 b) d_Model_readCells_75 ?_
        refine dz_iload x.1 6 d_Model_readCells_78 rfl ?_
        refine dz_cald (w := (g i)) x.1 (ly_MTyped b) (by decide) (by omega) d_Model_readCells_80 (TJ.2.2 i (by omega) (by omega)) ?_
        refine dz_bipush x.1 d_Model_readCells_81 (by decide) ?_
        refine dz_isub (z := (g i) - 48) x.1 d_Model_readCells_83 (by omega) ?_
        refine dz_istore (ls' := [(0, .ref (b + 130)), (1, .int (dz_i f0)), (2, .int (dz_i t0)), (3, .int (dz_i k)), (4, .int (dz_i p)), (5, .int (dz_i (sp_hb p))), (6, .int (dz_i i)), (7, .int (dz_i ((g i) - 48)))]) x.1 d_Model_readCells_84 hN (by decide) rfl ?_
        refine dz_iload x.1 7 d_Model_readCells_86 rfl ?_
        refine dz_iconst x.1 d_Model_readCells_88 ?_
        refine dz_icmp_lt (tgt := 106) x.1 d_Model_readCells_89 (by decide) (by omega) (by omega) (fun hc89 => ?_) (fun hc89 => ?_)
        · refine dz_iconst x.1 d_Model_readCells_106 ?_
          have hN9 : sp_rc g (t0 - f0).toNat f0 0 0 (fun _ => 0) = none := by
            rw [← hS]; simp only [sp_rc]; rw [if_neg (by omega), if_pos]
            by_cases hr : 49 ≤ g i ∧ g i ≤ 54
            · exact (sp_hb_le hp hr).mp (by omega)
            · rw [sp_dot_no (by omega)]; omega
          exact ly_iret x d_Model_readCells_107 (dz_nbo (by omega)) ⟨by rw [hN9]; rfl, hF, fun j _ => hA j, hB, fun cn F' h9 => by rw [hN9] at h9; cases h9⟩
        · refine dz_iload x.1 7 d_Model_readCells_92 rfl ?_
          refine dz_bipush x.1 d_Model_readCells_94 (by decide) ?_
          refine dz_icmp_gt (tgt := 106) x.1 d_Model_readCells_96 (by decide) (by omega) (by omega) (fun hc96 => ?_) (fun hc96 => ?_)
          · refine dz_iconst x.1 d_Model_readCells_106 ?_
            have hN9 : sp_rc g (t0 - f0).toNat f0 0 0 (fun _ => 0) = none := by
              rw [← hS]; simp only [sp_rc]; rw [if_neg (by omega), if_pos]
              by_cases hr : 49 ≤ g i ∧ g i ≤ 54
              · exact (sp_hb_le hp hr).mp (by omega)
              · rw [sp_dot_no (by omega)]; omega
            exact ly_iret x d_Model_readCells_107 (dz_nbo (by omega)) ⟨by rw [hN9]; rfl, hF, fun j _ => hA j, hB, fun cn F' h9 => by rw [hN9] at h9; cases h9⟩
          · refine dz_iload x.1 7 d_Model_readCells_99 rfl ?_
            refine dz_iload x.1 5 d_Model_readCells_101 rfl ?_
            refine dz_icmp_gt (tgt := 108) x.1 d_Model_readCells_103 (by decide) (by omega) (by omega) (fun hc103 => ?_) (fun hc103 => ?_)
            · refine dz_iload x.1 4 d_Model_readCells_108 rfl ?_
              refine dz_iconst x.1 d_Model_readCells_110 ?_
              refine dz_iload x.1 7 d_Model_readCells_111 rfl ?_
              refine dz_iconst x.1 d_Model_readCells_113 ?_
              refine dz_isub (z := (g i) - 49) x.1 d_Model_readCells_114 (by omega) ?_
              refine dz_ishl (z := (sp_dot (g i))) x.1 d_Model_readCells_115 (sp_dot_sh (by omega)) ?_
              refine dz_iadd (z := p + (sp_dot (g i))) x.1 d_Model_readCells_116 (by omega) ?_
              refine dz_istore (ls' := [(0, .ref (b + 130)), (1, .int (dz_i f0)), (2, .int (dz_i t0)), (3, .int (dz_i k)), (4, .int (dz_i (p + (sp_dot (g i))))), (5, .int (dz_i (sp_hb p))), (6, .int (dz_i i)), (7, .int (dz_i ((g i) - 48)))]) x.1 d_Model_readCells_117 hN (by decide) rfl ?_
              refine dz_iload x.1 7 d_Model_readCells_119 rfl ?_
              refine dz_istore (ls' := [(0, .ref (b + 130)), (1, .int (dz_i f0)), (2, .int (dz_i t0)), (3, .int (dz_i k)), (4, .int (dz_i (p + (sp_dot (g i))))), (5, .int (dz_i ((g i) - 48))), (6, .int (dz_i i)), (7, .int (dz_i ((g i) - 48)))]) x.1 d_Model_readCells_121 hN (by decide) rfl ?_
              refine dz_iinc (z := i + 1) (ls' := [(0, .ref (b + 130)), (1, .int (dz_i f0)), (2, .int (dz_i t0)), (3, .int (dz_i k)), (4, .int (dz_i (p + (sp_dot (g i))))), (5, .int (dz_i ((g i) - 48))), (6, .int (dz_i (i + 1))), (7, .int (dz_i ((g i) - 48)))]) x.1 6 d_Model_readCells_123 rfl hN (by decide) (by omega) rfl ?_
              refine dz_goto (tgt := 11) x.1 d_Model_readCells_126 (by decide) ?_
              refine dz_take 7 (ls' := [(0, .ref (b + 130)), (1, .int (dz_i f0)), (2, .int (dz_i t0)), (3, .int (dz_i k)), (4, .int (dz_i (p + (sp_dot (g i))))), (5, .int (dz_i ((g i) - 48))), (6, .int (dz_i (i + 1)))]) rfl ?_
              have hnd : ¬ sp_dot (g i) ≤ p := fun hz => by have := (sp_hb_le hp (by omega)).mpr hz; omega
              obtain ⟨hb1, hb2⟩ := sp_hb_add hp (by omega) hnd
              have h9 := ih (i + 1) (p + sp_dot (g i)) k F J (by omega) (by omega) hk hF hA hB hl (by rw [← hS]; simp only [sp_rc]; rw [if_neg (by omega), if_neg hnd])
              rw [hb1] at h9
              exact h9
            · refine dz_iconst x.1 d_Model_readCells_106 ?_
              have hN9 : sp_rc g (t0 - f0).toNat f0 0 0 (fun _ => 0) = none := by
                rw [← hS]; simp only [sp_rc]; rw [if_neg (by omega), if_pos]
                by_cases hr : 49 ≤ g i ∧ g i ≤ 54
                · exact (sp_hb_le hp hr).mp (by omega)
                · rw [sp_dot_no (by omega)]; omega
              exact ly_iret x d_Model_readCells_107 (dz_nbo (by omega)) ⟨by rw [hN9]; rfl, hF, fun j _ => hA j, hB, fun cn F' h9 => by rw [hN9] at h9; cases h9⟩
      · refine dz_iload x.1 4 d_Model_readCells_35 rfl ?_
        refine dz_if_eq (tgt := 45) x.1 d_Model_readCells_37 (by decide) (by omega) (fun hc37 => ?_) (fun hc37 => ?_)
        · refine dz_iconst x.1 d_Model_readCells_45 ?_
          have hN9 : sp_rc g (t0 - f0).toNat f0 0 0 (fun _ => 0) = none := by rw [← hS]; simp only [sp_rc]; rw [if_pos (by omega), if_pos (by omega)]
          exact ly_iret x d_Model_readCells_46 (dz_nbo (by omega)) ⟨by rw [hN9]; rfl, hF, fun j _ => hA j, hB, fun cn F' h9 => by rw [hN9] at h9; cases h9⟩
        · refine dz_iload_n x.1 3 d_Model_readCells_40 rfl rfl ?_
          refine dz_iconst x.1 d_Model_readCells_41 ?_
          refine dz_icmp_ne (tgt := 47) x.1 d_Model_readCells_42 (by decide) (by omega) (by omega) (fun hc42 => ?_) (fun hc42 => ?_)
          · refine dz_aload_n x.1 0 d_Model_readCells_47 rfl rfl ?_
            refine dz_getr x.1 (ly_Model b) fl_Model_26 (lr_Model_10 b) d_Model_readCells_48 ?_
            refine dz_iconst x.1 d_Model_readCells_51 ?_
            refine dz_aload_n x.1 0 d_Model_readCells_52 rfl rfl ?_
            refine dz_geti (z := (c : Int)) x.1 (ly_Model b) fl_Model_83 d_Model_readCells_53 (by rw [hF _ (fun h => by rcases h with h | h <;> omega)]; exact hcn) ?_
            refine dz_imul (z := 3 * (c : Int)) x.1 d_Model_readCells_56 (by omega) ?_
            refine dz_iload_n x.1 3 d_Model_readCells_57 rfl rfl ?_
            refine dz_iadd (z := 3 * (c : Int) + k) x.1 d_Model_readCells_58 (by omega) ?_
            refine dz_iload x.1 4 d_Model_readCells_59 rfl ?_
            refine dz_iast x.1 (ly_MRuleCells b) (by decide) (by omega) d_Model_readCells_61 ?_
            refine dz_iinc (z := k + 1) (ls' := [(0, .ref (b + 130)), (1, .int (dz_i f0)), (2, .int (dz_i t0)), (3, .int (dz_i (k + 1))), (4, .int (dz_i p)), (5, .int (dz_i (sp_hb p))), (6, .int (dz_i i))]) x.1 3 d_Model_readCells_62 rfl hN (by decide) (by omega) rfl ?_
            refine dz_iconst x.1 d_Model_readCells_65 ?_
            refine dz_istore (ls' := [(0, .ref (b + 130)), (1, .int (dz_i f0)), (2, .int (dz_i t0)), (3, .int (dz_i (k + 1))), (4, .int (dz_i 0)), (5, .int (dz_i (sp_hb p))), (6, .int (dz_i i))]) x.1 d_Model_readCells_66 hN (by decide) rfl ?_
            refine dz_iconst x.1 d_Model_readCells_68 ?_
            refine dz_istore (ls' := [(0, .ref (b + 130)), (1, .int (dz_i f0)), (2, .int (dz_i t0)), (3, .int (dz_i (k + 1))), (4, .int (dz_i 0)), (5, .int (dz_i 0)), (6, .int (dz_i i))]) x.1 d_Model_readCells_69 hN (by decide) rfl ?_
            refine dz_goto (tgt := 123) x.1 d_Model_readCells_71 (by decide) ?_
            refine dz_iinc (z := i + 1) (ls' := [(0, .ref (b + 130)), (1, .int (dz_i f0)), (2, .int (dz_i t0)), (3, .int (dz_i (k + 1))), (4, .int (dz_i 0)), (5, .int (dz_i 0)), (6, .int (dz_i (i + 1)))]) x.1 6 d_Model_readCells_123 rfl hN (by decide) (by omega) rfl ?_
            refine dz_goto (tgt := 11) x.1 d_Model_readCells_126 (by decide) ?_
            exact ih (i + 1) 0 (k + 1) (dz_u F k p) (dz_up J (b + 136) (3 * (c : Int) + k) p) (by omega) (by omega) (by omega) (hF.up (Or.inr rfl)) (fun j => by rw [dz_up_n _ _ _ (by omega)]; exact hA j) (fun j hj => by rw [dz_up_k _ _ _ (by omega)]; exact hB j hj) (fun j h1 h2 => by
              by_cases e : j = k
              · rw [e, dz_up_s, dz_u_s]
              · rw [dz_up_k _ _ _ (by omega), dz_u_n _ _ e]; exact hl j h1 (by omega)) (by rw [← hS]; simp only [sp_rc]; rw [if_pos (by omega), if_neg (by omega)])
          · refine dz_iconst x.1 d_Model_readCells_45 ?_
            have hN9 : sp_rc g (t0 - f0).toNat f0 0 0 (fun _ => 0) = none := by rw [← hS]; simp only [sp_rc]; rw [if_pos (by omega), if_pos (by omega)]
            exact ly_iret x d_Model_readCells_46 (dz_nbo (by omega)) ⟨by rw [hN9]; rfl, hF, fun j _ => hA j, hB, fun cn F' h9 => by rw [hN9] at h9; cases h9⟩
  show ly_V κ b sz I 0 [(0, .ref (b + 130)), (1, .int (dz_i f0)), (2, .int (dz_i t0))] []
  refine dz_iconst x.1 d_Model_readCells_0 ?_
  refine dz_istore_n (ls' := [(0, .ref (b + 130)), (1, .int (dz_i f0)), (2, .int (dz_i t0)), (3, .int (dz_i 0))]) x.1 d_Model_readCells_1 rfl hN (by decide) rfl ?_
  refine dz_iconst x.1 d_Model_readCells_2 ?_
  refine dz_istore (ls' := [(0, .ref (b + 130)), (1, .int (dz_i f0)), (2, .int (dz_i t0)), (3, .int (dz_i 0)), (4, .int (dz_i 0))]) x.1 d_Model_readCells_3 hN (by decide) rfl ?_
  refine dz_iconst x.1 d_Model_readCells_5 ?_
  refine dz_istore (ls' := [(0, .ref (b + 130)), (1, .int (dz_i f0)), (2, .int (dz_i t0)), (3, .int (dz_i 0)), (4, .int (dz_i 0)), (5, .int (dz_i 0))]) x.1 d_Model_readCells_6 hN (by decide) rfl ?_
  refine dz_iload_n x.1 1 d_Model_readCells_8 rfl rfl ?_
  refine dz_istore (ls' := [(0, .ref (b + 130)), (1, .int (dz_i f0)), (2, .int (dz_i t0)), (3, .int (dz_i 0)), (4, .int (dz_i 0)), (5, .int (dz_i 0)), (6, .int (dz_i f0))]) x.1 d_Model_readCells_9 hN (by decide) rfl ?_
  exact loop (t0 - f0).toNat f0 0 0 (fun _ => 0) I (by omega) (by omega) (by omega) sp_fr.rf (fun j => rfl) (fun j _ => rfl) (fun j h1 h2 => by omega) rfl
set_option maxRecDepth 100000 in
set_option maxHeartbeats 4000000 in
theorem c_Model_isThere (l : Launch) (D : va_G) (Dt : Nat → ClassId) (b sz : Nat) (I : dz_Hp) (c : Nat) (S : Nat → sp_Ru) (RI : sp_MR b I c S) (hc24 : c < 24) (u : sp_Ru) (hu1 : I (b + 132) (c : Int) = sp_k u) (hu2 : I (b + 133) (c : Int) = sp_ln u) (hu3 : ∀ j : Int, 0 ≤ j → j < sp_ln u → I (b + 134) (6 * (c : Int) + j) = sp_lt u j) (hw : sp_rwf u)  : ly_M l D Dt b sz y_Model_isThere b_Model_isThere 4 (some .boolean) 1 [.ref (b + 130)] I (fun v I' => v = some (.int (dz_i (if sp_any (fun r => sp_like (S r) u) c = true then 1 else 0))) ∧ I' = I) := by
  refine ly_enter R_Model (by decide) rfl (Nat.le_of_ble_eq_true rfl) (ly_cat _ 0 rfl) (fun κ x => ?_)
  have hN := ly_N x
  have hw0 := hw.1
  have hw1 := hw.2.1
  have loop : ∀ (k : Nat) (r : Nat), (r + k = c) → (∀ j : Nat, j < r → sp_like (S j) u = false) → ly_V κ b sz I 2 [(0, .ref (b + 130)), (1, .int (dz_i (r : Int)))] [] := by
    intro k
    induction k with
    | zero =>
      intro r hr hl
      refine dz_iload_n x.1 1 d_Model_isThere_2 rfl rfl ?_
      refine dz_aload_n x.1 0 d_Model_isThere_3 rfl rfl ?_
      refine dz_geti (z := (c : Int)) x.1 (ly_Model b) fl_Model_83 d_Model_isThere_4 RI.1 ?_
      refine dz_icmp_ge (tgt := 123) x.1 d_Model_isThere_7 (by decide) (by omega) (by omega) (fun hc7 => ?_) (fun hc7 => by exfalso; omega)
      refine dz_iconst x.1 d_Model_isThere_123 ?_
      exact ly_iret x d_Model_isThere_124 (dz_nbo (by omega)) ⟨by rw [sp_bf (sp_any_f (fun j h => hl j (by omega)))], rfl⟩
    | succ k ih =>
      intro r hr hl
      have hr1 := RI.2.2 r (by omega)
      have hr2 := hr1.2.1
      have hr3 := hr1.2.2.1
      by_cases hsame : (sp_k (S r) = sp_k u ∧ sp_ln (S r) = sp_ln u)
      · have hsame2 := hsame
        have inner : ∀ (k2 : Nat) (i : Int), (0 ≤ i ∧ i + (k2 : Int) = sp_ln u) → (∀ j : Int, 0 ≤ j → j < i → decide (sp_lt (S r) j = sp_lt u j) = true) → ly_V κ b sz I 54 [(0, .ref (b + 130)), (1, .int (dz_i (r : Int))), (2, .int (dz_i 1)), (3, .int (dz_i i))] [] := by
          intro k2
          induction k2 with
          | zero =>
            intro i hi hal
            refine dz_iload_n x.1 3 d_Model_isThere_54 rfl rfl ?_
            refine dz_aload_n x.1 0 d_Model_isThere_55 rfl rfl ?_
            refine dz_getr x.1 (ly_Model b) fl_Model_17 (lr_Model_7 b) d_Model_isThere_56 ?_
            refine dz_aload_n x.1 0 d_Model_isThere_59 rfl rfl ?_
            refine dz_geti (z := (c : Int)) x.1 (ly_Model b) fl_Model_83 d_Model_isThere_60 RI.1 ?_
            refine dz_iald (w := (sp_ln u)) x.1 (ly_MLetterCount b) (by decide) (by omega) d_Model_isThere_63 hu2 ?_
            refine dz_icmp_ge (tgt := 111) x.1 d_Model_isThere_64 (by decide) (by omega) (by omega) (fun hc64 => ?_) (fun hc64 => by exfalso; omega)
            have hlk : sp_like (S r) u = true := by unfold sp_like; rw [decide_eq_true hsame, sp_all_t (fun j j1 j2 => hal j j1 (by omega))]; rfl
            refine dz_iload_n x.1 2 d_Model_isThere_111 rfl rfl ?_
            refine dz_if_eq (tgt := 117) x.1 d_Model_isThere_112 (by decide) (by omega) (fun hc112 => by exfalso; omega) (fun hc112 => ?_)
            refine dz_iconst x.1 d_Model_isThere_115 ?_
            exact ly_iret x d_Model_isThere_116 (dz_nbo (by omega)) ⟨by rw [sp_bt (sp_any_t (j := r) (by omega) hlk)], rfl⟩
          | succ k2 ihi =>
            intro i hi hal
            refine dz_iload_n x.1 3 d_Model_isThere_54 rfl rfl ?_
            refine dz_aload_n x.1 0 d_Model_isThere_55 rfl rfl ?_
            refine dz_getr x.1 (ly_Model b) fl_Model_17 (lr_Model_7 b) d_Model_isThere_56 ?_
            refine dz_aload_n x.1 0 d_Model_isThere_59 rfl rfl ?_
            refine dz_geti (z := (c : Int)) x.1 (ly_Model b) fl_Model_83 d_Model_isThere_60 RI.1 ?_
            refine dz_iald (w := (sp_ln u)) x.1 (ly_MLetterCount b) (by decide) (by omega) d_Model_isThere_63 hu2 ?_
            refine dz_icmp_ge (tgt := 111) x.1 d_Model_isThere_64 (by decide) (by omega) (by omega) (fun hc64 => by exfalso; omega) (fun hc64 => ?_)
            refine dz_iload_n x.1 2 d_Model_isThere_67 rfl rfl ?_
            refine dz_if_eq (tgt := 111) x.1 d_Model_isThere_68 (by decide) (by omega) (fun hc68 => by exfalso; omega) (fun hc68 => ?_)
            have hl1 := hr1.2.2.2.2.1 i (by omega) (by omega)
            have hl2 := hw.2.2.2.1 i (by omega) (by omega)
            refine dz_aload_n x.1 0 d_Model_isThere_71 rfl rfl ?_
            refine dz_getr x.1 (ly_Model b) fl_Model_20 (lr_Model_8 b) d_Model_isThere_72 ?_
            refine dz_bipush x.1 d_Model_isThere_75 (by decide) ?_
            refine dz_iload_n x.1 1 d_Model_isThere_77 rfl rfl ?_
            refine dz_imul (z := 6 * (r : Int)) x.1 d_Model_isThere_78 (by omega) ?_
            refine dz_iload_n x.1 3 d_Model_isThere_79 rfl rfl ?_
            refine dz_iadd (z := 6 * (r : Int) + i) x.1 d_Model_isThere_80 (by omega) ?_
            refine dz_cald (w := (sp_lt (S r) i)) x.1 (ly_MLetters b) (by decide) (by omega) d_Model_isThere_81 (hr1.1.2.2.2.1 i (by omega) (by omega)) ?_
            refine dz_aload_n x.1 0 d_Model_isThere_82 rfl rfl ?_
            refine dz_getr x.1 (ly_Model b) fl_Model_20 (lr_Model_8 b) d_Model_isThere_83 ?_
            refine dz_bipush x.1 d_Model_isThere_86 (by decide) ?_
            refine dz_aload_n x.1 0 d_Model_isThere_88 rfl rfl ?_
            refine dz_geti (z := (c : Int)) x.1 (ly_Model b) fl_Model_83 d_Model_isThere_89 RI.1 ?_
            refine dz_imul (z := 6 * (c : Int)) x.1 d_Model_isThere_92 (by omega) ?_
            refine dz_iload_n x.1 3 d_Model_isThere_93 rfl rfl ?_
            refine dz_iadd (z := 6 * (c : Int) + i) x.1 d_Model_isThere_94 (by omega) ?_
            refine dz_cald (w := (sp_lt u i)) x.1 (ly_MLetters b) (by decide) (by omega) d_Model_isThere_95 (hu3 i (by omega) (by omega)) ?_
            refine dz_icmp_ne (tgt := 103) x.1 d_Model_isThere_96 (by decide) (by omega) (by omega) (fun hc96 => ?_) (fun hc96 => ?_)
            · refine dz_iconst x.1 d_Model_isThere_103 ?_
              refine dz_istore_n (ls' := [(0, .ref (b + 130)), (1, .int (dz_i (r : Int))), (2, .int (dz_i 0)), (3, .int (dz_i i))]) x.1 d_Model_isThere_104 rfl hN (by decide) rfl ?_
              refine dz_iinc (z := i + 1) (ls' := [(0, .ref (b + 130)), (1, .int (dz_i (r : Int))), (2, .int (dz_i 0)), (3, .int (dz_i (i + 1)))]) x.1 3 d_Model_isThere_105 rfl hN (by decide) (by omega) rfl ?_
              refine dz_goto (tgt := 54) x.1 d_Model_isThere_108 (by decide) ?_
              refine dz_iload_n x.1 3 d_Model_isThere_54 rfl rfl ?_
              refine dz_aload_n x.1 0 d_Model_isThere_55 rfl rfl ?_
              refine dz_getr x.1 (ly_Model b) fl_Model_17 (lr_Model_7 b) d_Model_isThere_56 ?_
              refine dz_aload_n x.1 0 d_Model_isThere_59 rfl rfl ?_
              refine dz_geti (z := (c : Int)) x.1 (ly_Model b) fl_Model_83 d_Model_isThere_60 RI.1 ?_
              refine dz_iald (w := (sp_ln u)) x.1 (ly_MLetterCount b) (by decide) (by omega) d_Model_isThere_63 hu2 ?_
              refine dz_icmp_ge (tgt := 111) x.1 d_Model_isThere_64 (by decide) (by omega) (by omega) (fun hc64 => ?_) (fun hc64 => ?_)
              · have hlk : sp_like (S r) u = false := by unfold sp_like; rw [sp_all_f (j := i) (by omega) (by omega) (decide_eq_false hc96)]; exact Bool.and_false _
                refine dz_iload_n x.1 2 d_Model_isThere_111 rfl rfl ?_
                refine dz_if_eq (tgt := 117) x.1 d_Model_isThere_112 (by decide) (by omega) (fun hc112 => ?_) (fun hc112 => by exfalso; omega)
                refine dz_iinc (z := (r : Int) + 1) (ls' := [(0, .ref (b + 130)), (1, .int (dz_i ((r : Int) + 1))), (2, .int (dz_i 0)), (3, .int (dz_i (i + 1)))]) x.1 1 d_Model_isThere_117 rfl hN (by decide) (by omega) rfl ?_
                refine dz_goto (tgt := 2) x.1 d_Model_isThere_120 (by decide) ?_
                refine dz_take 2 (ls' := [(0, .ref (b + 130)), (1, .int (dz_i ((r : Int) + 1)))]) rfl ?_
                have h9 := ih (r + 1) (by omega) (fun j hj => by
                  by_cases e : j = r
                  · rw [e]; exact hlk
                  · exact hl j (by omega))
                rw [show ((r + 1 : Nat) : Int) = (r : Int) + 1 by omega] at h9
                exact h9
              · refine dz_iload_n x.1 2 d_Model_isThere_67 rfl rfl ?_
                refine dz_if_eq (tgt := 111) x.1 d_Model_isThere_68 (by decide) (by omega) (fun hc68 => ?_) (fun hc68 => by exfalso; omega)
                have hlk : sp_like (S r) u = false := by unfold sp_like; rw [sp_all_f (j := i) (by omega) (by omega) (decide_eq_false hc96)]; exact Bool.and_false _
                refine dz_iload_n x.1 2 d_Model_isThere_111 rfl rfl ?_
                refine dz_if_eq (tgt := 117) x.1 d_Model_isThere_112 (by decide) (by omega) (fun hc112 => ?_) (fun hc112 => by exfalso; omega)
                refine dz_iinc (z := (r : Int) + 1) (ls' := [(0, .ref (b + 130)), (1, .int (dz_i ((r : Int) + 1))), (2, .int (dz_i 0)), (3, .int (dz_i (i + 1)))]) x.1 1 d_Model_isThere_117 rfl hN (by decide) (by omega) rfl ?_
                refine dz_goto (tgt := 2) x.1 d_Model_isThere_120 (by decide) ?_
                refine dz_take 2 (ls' := [(0, .ref (b + 130)), (1, .int (dz_i ((r : Int) + 1)))]) rfl ?_
                have h9 := ih (r + 1) (by omega) (fun j hj => by
                  by_cases e : j = r
                  · rw [e]; exact hlk
                  · exact hl j (by omega))
                rw [show ((r + 1 : Nat) : Int) = (r : Int) + 1 by omega] at h9
                exact h9
            · refine dz_iconst x.1 d_Model_isThere_99 ?_
              refine dz_goto (tgt := 104) x.1 d_Model_isThere_100 (by decide) ?_
              refine dz_istore_n (ls' := [(0, .ref (b + 130)), (1, .int (dz_i (r : Int))), (2, .int (dz_i 1)), (3, .int (dz_i i))]) x.1 d_Model_isThere_104 rfl hN (by decide) rfl ?_
              refine dz_iinc (z := i + 1) (ls' := [(0, .ref (b + 130)), (1, .int (dz_i (r : Int))), (2, .int (dz_i 1)), (3, .int (dz_i (i + 1)))]) x.1 3 d_Model_isThere_105 rfl hN (by decide) (by omega) rfl ?_
              refine dz_goto (tgt := 54) x.1 d_Model_isThere_108 (by decide) ?_
              exact ihi (i + 1) (by omega) (fun j j1 j2 => by
                by_cases e : j = i
                · rw [e]; exact decide_eq_true hc96
                · exact hal j j1 (by omega))
        refine dz_iload_n x.1 1 d_Model_isThere_2 rfl rfl ?_
        refine dz_aload_n x.1 0 d_Model_isThere_3 rfl rfl ?_
        refine dz_geti (z := (c : Int)) x.1 (ly_Model b) fl_Model_83 d_Model_isThere_4 RI.1 ?_
        refine dz_icmp_ge (tgt := 123) x.1 d_Model_isThere_7 (by decide) (by omega) (by omega) (fun hc7 => by exfalso; omega) (fun hc7 => ?_)
        refine dz_aload_n x.1 0 d_Model_isThere_10 rfl rfl ?_
        refine dz_getr x.1 (ly_Model b) fl_Model_13 (lr_Model_6 b) d_Model_isThere_11 ?_
        refine dz_iload_n x.1 1 d_Model_isThere_14 rfl rfl ?_
        refine dz_iald (w := (sp_k (S r))) x.1 (ly_MKinds b) (by decide) (by omega) d_Model_isThere_15 hr1.1.1 ?_
        refine dz_aload_n x.1 0 d_Model_isThere_16 rfl rfl ?_
        refine dz_getr x.1 (ly_Model b) fl_Model_13 (lr_Model_6 b) d_Model_isThere_17 ?_
        refine dz_aload_n x.1 0 d_Model_isThere_20 rfl rfl ?_
        refine dz_geti (z := (c : Int)) x.1 (ly_Model b) fl_Model_83 d_Model_isThere_21 RI.1 ?_
        refine dz_iald (w := (sp_k u)) x.1 (ly_MKinds b) (by decide) (by omega) d_Model_isThere_24 hu1 ?_
        refine dz_icmp_ne (tgt := 50) x.1 d_Model_isThere_25 (by decide) (by omega) (by omega) (fun hc25 => by exfalso; omega) (fun hc25 => ?_)
        refine dz_aload_n x.1 0 d_Model_isThere_28 rfl rfl ?_
        refine dz_getr x.1 (ly_Model b) fl_Model_17 (lr_Model_7 b) d_Model_isThere_29 ?_
        refine dz_iload_n x.1 1 d_Model_isThere_32 rfl rfl ?_
        refine dz_iald (w := (sp_ln (S r))) x.1 (ly_MLetterCount b) (by decide) (by omega) d_Model_isThere_33 hr1.1.2.1 ?_
        refine dz_aload_n x.1 0 d_Model_isThere_34 rfl rfl ?_
        refine dz_getr x.1 (ly_Model b) fl_Model_17 (lr_Model_7 b) d_Model_isThere_35 ?_
        refine dz_aload_n x.1 0 d_Model_isThere_38 rfl rfl ?_
        refine dz_geti (z := (c : Int)) x.1 (ly_Model b) fl_Model_83 d_Model_isThere_39 RI.1 ?_
        refine dz_iald (w := (sp_ln u)) x.1 (ly_MLetterCount b) (by decide) (by omega) d_Model_isThere_42 hu2 ?_
        refine dz_icmp_ne (tgt := 50) x.1 d_Model_isThere_43 (by decide) (by omega) (by omega) (fun hc43 => by exfalso; omega) (fun hc43 => ?_)
        refine dz_iconst x.1 d_Model_isThere_46 ?_
        refine dz_goto (tgt := 51) x.1 d_Model_isThere_47 (by decide) ?_
        refine dz_istore_n (ls' := [(0, .ref (b + 130)), (1, .int (dz_i (r : Int))), (2, .int (dz_i 1))]) x.1 d_Model_isThere_51 rfl hN (by decide) rfl ?_
        refine dz_iconst x.1 d_Model_isThere_52 ?_
        refine dz_istore_n (ls' := [(0, .ref (b + 130)), (1, .int (dz_i (r : Int))), (2, .int (dz_i 1)), (3, .int (dz_i 0))]) x.1 d_Model_isThere_53 rfl hN (by decide) rfl ?_
        exact inner (sp_ln u).toNat 0 (by omega) (fun j j1 j2 => by omega)
      · have hlk : sp_like (S r) u = false := by unfold sp_like; rw [decide_eq_false hsame]; rfl
        refine dz_iload_n x.1 1 d_Model_isThere_2 rfl rfl ?_
        refine dz_aload_n x.1 0 d_Model_isThere_3 rfl rfl ?_
        refine dz_geti (z := (c : Int)) x.1 (ly_Model b) fl_Model_83 d_Model_isThere_4 RI.1 ?_
        refine dz_icmp_ge (tgt := 123) x.1 d_Model_isThere_7 (by decide) (by omega) (by omega) (fun hc7 => by exfalso; omega) (fun hc7 => ?_)
        refine dz_aload_n x.1 0 d_Model_isThere_10 rfl rfl ?_
        refine dz_getr x.1 (ly_Model b) fl_Model_13 (lr_Model_6 b) d_Model_isThere_11 ?_
        refine dz_iload_n x.1 1 d_Model_isThere_14 rfl rfl ?_
        refine dz_iald (w := (sp_k (S r))) x.1 (ly_MKinds b) (by decide) (by omega) d_Model_isThere_15 hr1.1.1 ?_
        refine dz_aload_n x.1 0 d_Model_isThere_16 rfl rfl ?_
        refine dz_getr x.1 (ly_Model b) fl_Model_13 (lr_Model_6 b) d_Model_isThere_17 ?_
        refine dz_aload_n x.1 0 d_Model_isThere_20 rfl rfl ?_
        refine dz_geti (z := (c : Int)) x.1 (ly_Model b) fl_Model_83 d_Model_isThere_21 RI.1 ?_
        refine dz_iald (w := (sp_k u)) x.1 (ly_MKinds b) (by decide) (by omega) d_Model_isThere_24 hu1 ?_
        refine dz_icmp_ne (tgt := 50) x.1 d_Model_isThere_25 (by decide) (by omega) (by omega) (fun hc25 => ?_) (fun hc25 => ?_)
        · refine dz_iconst x.1 d_Model_isThere_50 ?_
          refine dz_istore_n (ls' := [(0, .ref (b + 130)), (1, .int (dz_i (r : Int))), (2, .int (dz_i 0))]) x.1 d_Model_isThere_51 rfl hN (by decide) rfl ?_
          refine dz_iconst x.1 d_Model_isThere_52 ?_
          refine dz_istore_n (ls' := [(0, .ref (b + 130)), (1, .int (dz_i (r : Int))), (2, .int (dz_i 0)), (3, .int (dz_i 0))]) x.1 d_Model_isThere_53 rfl hN (by decide) rfl ?_
          refine dz_iload_n x.1 3 d_Model_isThere_54 rfl rfl ?_
          refine dz_aload_n x.1 0 d_Model_isThere_55 rfl rfl ?_
          refine dz_getr x.1 (ly_Model b) fl_Model_17 (lr_Model_7 b) d_Model_isThere_56 ?_
          refine dz_aload_n x.1 0 d_Model_isThere_59 rfl rfl ?_
          refine dz_geti (z := (c : Int)) x.1 (ly_Model b) fl_Model_83 d_Model_isThere_60 RI.1 ?_
          refine dz_iald (w := (sp_ln u)) x.1 (ly_MLetterCount b) (by decide) (by omega) d_Model_isThere_63 hu2 ?_
          refine dz_icmp_ge (tgt := 111) x.1 d_Model_isThere_64 (by decide) (by omega) (by omega) (fun hc64 => ?_) (fun hc64 => ?_)
          · refine dz_iload_n x.1 2 d_Model_isThere_111 rfl rfl ?_
            refine dz_if_eq (tgt := 117) x.1 d_Model_isThere_112 (by decide) (by omega) (fun hc112 => ?_) (fun hc112 => by exfalso; omega)
            refine dz_iinc (z := (r : Int) + 1) (ls' := [(0, .ref (b + 130)), (1, .int (dz_i ((r : Int) + 1))), (2, .int (dz_i 0)), (3, .int (dz_i 0))]) x.1 1 d_Model_isThere_117 rfl hN (by decide) (by omega) rfl ?_
            refine dz_goto (tgt := 2) x.1 d_Model_isThere_120 (by decide) ?_
            refine dz_take 2 (ls' := [(0, .ref (b + 130)), (1, .int (dz_i ((r : Int) + 1)))]) rfl ?_
            have h9 := ih (r + 1) (by omega) (fun j hj => by
              by_cases e : j = r
              · rw [e]; exact hlk
              · exact hl j (by omega))
            rw [show ((r + 1 : Nat) : Int) = (r : Int) + 1 by omega] at h9
            exact h9
          · refine dz_iload_n x.1 2 d_Model_isThere_67 rfl rfl ?_
            refine dz_if_eq (tgt := 111) x.1 d_Model_isThere_68 (by decide) (by omega) (fun hc68 => ?_) (fun hc68 => by exfalso; omega)
            refine dz_iload_n x.1 2 d_Model_isThere_111 rfl rfl ?_
            refine dz_if_eq (tgt := 117) x.1 d_Model_isThere_112 (by decide) (by omega) (fun hc112 => ?_) (fun hc112 => by exfalso; omega)
            refine dz_iinc (z := (r : Int) + 1) (ls' := [(0, .ref (b + 130)), (1, .int (dz_i ((r : Int) + 1))), (2, .int (dz_i 0)), (3, .int (dz_i 0))]) x.1 1 d_Model_isThere_117 rfl hN (by decide) (by omega) rfl ?_
            refine dz_goto (tgt := 2) x.1 d_Model_isThere_120 (by decide) ?_
            refine dz_take 2 (ls' := [(0, .ref (b + 130)), (1, .int (dz_i ((r : Int) + 1)))]) rfl ?_
            have h9 := ih (r + 1) (by omega) (fun j hj => by
              by_cases e : j = r
              · rw [e]; exact hlk
              · exact hl j (by omega))
            rw [show ((r + 1 : Nat) : Int) = (r : Int) + 1 by omega] at h9
            exact h9
        · refine dz_aload_n x.1 0 d_Model_isThere_28 rfl rfl ?_
          refine dz_getr x.1 (ly_Model b) fl_Model_17 (lr_Model_7 b) d_Model_isThere_29 ?_
          refine dz_iload_n x.1 1 d_Model_isThere_32 rfl rfl ?_
          refine dz_iald (w := (sp_ln (S r))) x.1 (ly_MLetterCount b) (by decide) (by omega) d_Model_isThere_33 hr1.1.2.1 ?_
          refine dz_aload_n x.1 0 d_Model_isThere_34 rfl rfl ?_
          refine dz_getr x.1 (ly_Model b) fl_Model_17 (lr_Model_7 b) d_Model_isThere_35 ?_
          refine dz_aload_n x.1 0 d_Model_isThere_38 rfl rfl ?_
          refine dz_geti (z := (c : Int)) x.1 (ly_Model b) fl_Model_83 d_Model_isThere_39 RI.1 ?_
          refine dz_iald (w := (sp_ln u)) x.1 (ly_MLetterCount b) (by decide) (by omega) d_Model_isThere_42 hu2 ?_
          refine dz_icmp_ne (tgt := 50) x.1 d_Model_isThere_43 (by decide) (by omega) (by omega) (fun hc43 => ?_) (fun hc43 => ?_)
          · refine dz_iconst x.1 d_Model_isThere_50 ?_
            refine dz_istore_n (ls' := [(0, .ref (b + 130)), (1, .int (dz_i (r : Int))), (2, .int (dz_i 0))]) x.1 d_Model_isThere_51 rfl hN (by decide) rfl ?_
            refine dz_iconst x.1 d_Model_isThere_52 ?_
            refine dz_istore_n (ls' := [(0, .ref (b + 130)), (1, .int (dz_i (r : Int))), (2, .int (dz_i 0)), (3, .int (dz_i 0))]) x.1 d_Model_isThere_53 rfl hN (by decide) rfl ?_
            refine dz_iload_n x.1 3 d_Model_isThere_54 rfl rfl ?_
            refine dz_aload_n x.1 0 d_Model_isThere_55 rfl rfl ?_
            refine dz_getr x.1 (ly_Model b) fl_Model_17 (lr_Model_7 b) d_Model_isThere_56 ?_
            refine dz_aload_n x.1 0 d_Model_isThere_59 rfl rfl ?_
            refine dz_geti (z := (c : Int)) x.1 (ly_Model b) fl_Model_83 d_Model_isThere_60 RI.1 ?_
            refine dz_iald (w := (sp_ln u)) x.1 (ly_MLetterCount b) (by decide) (by omega) d_Model_isThere_63 hu2 ?_
            refine dz_icmp_ge (tgt := 111) x.1 d_Model_isThere_64 (by decide) (by omega) (by omega) (fun hc64 => ?_) (fun hc64 => ?_)
            · refine dz_iload_n x.1 2 d_Model_isThere_111 rfl rfl ?_
              refine dz_if_eq (tgt := 117) x.1 d_Model_isThere_112 (by decide) (by omega) (fun hc112 => ?_) (fun hc112 => by exfalso; omega)
              refine dz_iinc (z := (r : Int) + 1) (ls' := [(0, .ref (b + 130)), (1, .int (dz_i ((r : Int) + 1))), (2, .int (dz_i 0)), (3, .int (dz_i 0))]) x.1 1 d_Model_isThere_117 rfl hN (by decide) (by omega) rfl ?_
              refine dz_goto (tgt := 2) x.1 d_Model_isThere_120 (by decide) ?_
              refine dz_take 2 (ls' := [(0, .ref (b + 130)), (1, .int (dz_i ((r : Int) + 1)))]) rfl ?_
              have h9 := ih (r + 1) (by omega) (fun j hj => by
                by_cases e : j = r
                · rw [e]; exact hlk
                · exact hl j (by omega))
              rw [show ((r + 1 : Nat) : Int) = (r : Int) + 1 by omega] at h9
              exact h9
            · refine dz_iload_n x.1 2 d_Model_isThere_67 rfl rfl ?_
              refine dz_if_eq (tgt := 111) x.1 d_Model_isThere_68 (by decide) (by omega) (fun hc68 => ?_) (fun hc68 => by exfalso; omega)
              refine dz_iload_n x.1 2 d_Model_isThere_111 rfl rfl ?_
              refine dz_if_eq (tgt := 117) x.1 d_Model_isThere_112 (by decide) (by omega) (fun hc112 => ?_) (fun hc112 => by exfalso; omega)
              refine dz_iinc (z := (r : Int) + 1) (ls' := [(0, .ref (b + 130)), (1, .int (dz_i ((r : Int) + 1))), (2, .int (dz_i 0)), (3, .int (dz_i 0))]) x.1 1 d_Model_isThere_117 rfl hN (by decide) (by omega) rfl ?_
              refine dz_goto (tgt := 2) x.1 d_Model_isThere_120 (by decide) ?_
              refine dz_take 2 (ls' := [(0, .ref (b + 130)), (1, .int (dz_i ((r : Int) + 1)))]) rfl ?_
              have h9 := ih (r + 1) (by omega) (fun j hj => by
                by_cases e : j = r
                · rw [e]; exact hlk
                · exact hl j (by omega))
              rw [show ((r + 1 : Nat) : Int) = (r : Int) + 1 by omega] at h9
              exact h9
          · exact absurd ⟨by omega, by omega⟩ hsame
  show ly_V κ b sz I 0 [(0, .ref (b + 130))] []
  refine dz_iconst x.1 d_Model_isThere_0 ?_
  refine dz_istore_n (ls' := [(0, .ref (b + 130)), (1, .int (dz_i 0))]) x.1 d_Model_isThere_1 rfl hN (by decide) rfl ?_
  exact loop c 0 (by omega) (fun j h => by omega)
