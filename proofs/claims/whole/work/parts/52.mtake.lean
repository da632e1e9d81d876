theorem sp_MR.up {b : Nat} {I J : dz_Hp} {c : Nat} {S : Nat → sp_Ru} (h : sp_MR b I c S) (h5 : J (b + 130) 5 = I (b + 130) 5) (h1 : ∀ j : Int, j < (c : Int) → J (b + 132) j = I (b + 132) j) (h2 : ∀ j : Int, j < (c : Int) → J (b + 133) j = I (b + 133) j) (h3 : ∀ j : Int, j < (c : Int) → J (b + 135) j = I (b + 135) j) (h4 : ∀ j : Int, j < 6 * (c : Int) → J (b + 134) j = I (b + 134) j) (h6 : ∀ j : Int, j < 3 * (c : Int) → J (b + 136) j = I (b + 136) j) : sp_MR b J c S := by
  refine ⟨by rw [h5]; exact h.1, h.2.1, fun r hr => ⟨?_, (h.2.2 r hr).2⟩⟩
  obtain ⟨⟨a1, a2, a3, a4, a5⟩, a6⟩ := h.2.2 r hr
  refine ⟨by rw [h1 _ (by omega)]; exact a1, by rw [h2 _ (by omega)]; exact a2, by rw [h3 _ (by omega)]; exact a3, fun j j1 j2 => ?_, fun j j1 j2 => ?_⟩
  · rw [h4 _ (by have := a6.2.1; omega)]; exact a4 j j1 j2
  · rw [h6 _ (by have := a6.2.2.1; omega)]; exact a5 j j1 j2
set_option maxRecDepth 100000 in
set_option maxHeartbeats 4000000 in
theorem c_Model_takeRule (l : Launch) (D : va_G) (Dt : Nat → ClassId) (b sz : Nat) (I : dz_Hp) (n : Int) (g : Int → Int) (TI : sp_MT b I n g) (c : Nat) (S : Nat → sp_Ru) (RI : sp_MR b I c S) (f0 t0 : Int) (hf : 0 ≤ f0 ∧ f0 ≤ t0) (ht : t0 ≤ n) (hE : sp_end n g t0) : ly_M l D Dt b sz y_Model_takeRule b_Model_takeRule 5 (some .boolean) 3 [.ref (b + 130), .int (dz_i f0), .int (dz_i t0)] I (fun v I' => v = some (.int (dz_i (if (sp_one g c S f0 t0).isSome = true then 1 else 0))) ∧ sp_fr I I' (fun q => q = b + 130 ∨ (b + 132 ≤ q ∧ q ≤ b + 136)) ∧ (∀ k : Int, k ≠ 5 → I' (b + 130) k = I (b + 130) k) ∧ (sp_one g c S f0 t0 = none → sp_MR b I' c S) ∧ ∀ u, sp_one g c S f0 t0 = some u → sp_MR b I' (c + 1) (sp_set S c u)) := by
  refine ly_enter R_Model (by decide) rfl (Nat.le_of_ble_eq_true rfl) (ly_cat _ 0 rfl) (fun κ x => ?_)
  have hN := ly_N x
  have hn9 := TI.2.1.1
  have hc24 := RI.2.1
  have hEt := hE.at TI.2.1
  have hgf := TI.2.1.rng f0
  have hgf1 := TI.2.1.rng (f0 + 1)
  have hix := sp_ix_rng 0 (g f0)
  have k108 : ∀ (J : dz_Hp), (sp_fr I J (fun q => q = b + 134)) → (∀ j : Int, j < 6 * (c : Int) → J (b + 134) j = I (b + 134) j) → (∀ j : Int, 0 ≤ j → j < (sp_run (sp_sm g (f0 + 2)) 0 6) → J (b + 134) (6 * (c : Int) + j) = g (f0 + 2 + j)) → (c < 24) → (6 ≤ t0 - f0) → (0 ≤ sp_ix 0 (g f0) ∧ g (f0 + 1) = 32) → ly_V κ b sz J 108 [(0, .ref (b + 130)), (1, .int (dz_i f0)), (2, .int (dz_i t0)), (3, .int (dz_i (sp_run (sp_sm g (f0 + 2)) 0 6))), (4, .int (dz_i (f0 + (sp_run (sp_sm g (f0 + 2)) 0 6) + 2)))] [] := by
    intro J hF hO hl hc9 h6 hk0
    have TJ : sp_MT b J n g := TI.fr (by rw [hF _ (fun h => by have h : _ = _ := h; omega)]) (hF _ (fun h => by have h : _ = _ := h; omega))
    have hre := sp_run_end hE TI.2.1 (f0 := f0) (by omega)
    have hr1 := (sp_run_spec (sp_sm g (f0 + 2)) 6 0).1
    have hr2 := (sp_run_spec (sp_sm g (f0 + 2)) 6 0).2.1
    have hgx := TI.2.1.rng (f0 + (sp_run (sp_sm g (f0 + 2)) 0 6) + 2)
    have RJ : sp_MR b J c S := RI.up (by rw [hF _ (fun h => by have h : _ = _ := h; omega)]) (fun j _ => by rw [hF _ (fun h => by have h : _ = _ := h; omega)]) (fun j _ => by rw [hF _ (fun h => by have h : _ = _ := h; omega)]) (fun j _ => by rw [hF _ (fun h => by have h : _ = _ := h; omega)]) hO (fun j _ => by rw [hF _ (fun h => by have h : _ = _ := h; omega)])
    have FJ : sp_fr I J (fun q => q = b + 130 ∨ (b + 132 ≤ q ∧ q ≤ b + 136)) := hF.mono (fun q h => Or.inr (by have h : _ = _ := h; omega))
    have AJ : ∀ k : Int, k ≠ 5 → J (b + 130) k = I (b + 130) k := fun k _ => by rw [hF _ (fun h => by have h : _ = _ := h; omega)]
    refine dz_iload_n x.1 3 d_Model_takeRule_108 rfl rfl ?_
    refine dz_iconst x.1 d_Model_takeRule_109 ?_
    refine dz_icmp_lt (tgt := 143) x.1 d_Model_takeRule_110 (by decide) (by omega) (by omega) (fun hc110 => ?_) (fun hc110 => ?_)
    · refine dz_iconst x.1 d_Model_takeRule_143 ?_
      have hbad : (sp_run (sp_sm g (f0 + 2)) 0 6) < 2 ∨ ¬ g (f0 + (sp_run (sp_sm g (f0 + 2)) 0 6) + 2) = 61 := by
        by_cases h2 : (sp_run (sp_sm g (f0 + 2)) 0 6) < 2
        · exact Or.inl h2
        · right
          first
            | omega
            | (rw [show f0 + (sp_run (sp_sm g (f0 + 2)) 0 6) + 2 = t0 by omega]; omega)
      have hN9 : sp_one g c S f0 t0 = none := by unfold sp_one; rw [if_neg (by omega)]; unfold sp_parse; rw [if_neg (by omega), if_pos hbad]
      exact ly_iret x d_Model_takeRule_144 (dz_nbo (by omega)) ⟨by rw [hN9]; rfl, FJ, AJ, fun _ => RJ, fun u h => by rw [hN9] at h; cases h⟩
    · refine dz_iload x.1 4 d_Model_takeRule_113 rfl ?_
      refine dz_iload_n x.1 2 d_Model_takeRule_115 rfl rfl ?_
      refine dz_icmp_eq (tgt := 143) x.1 d_Model_takeRule_116 (by decide) (by omega) (by omega) (fun hc116 => ?_) (fun hc116 => ?_)
      · refine dz_iconst x.1 d_Model_takeRule_143 ?_
        have hbad : (sp_run (sp_sm g (f0 + 2)) 0 6) < 2 ∨ ¬ g (f0 + (sp_run (sp_sm g (f0 + 2)) 0 6) + 2) = 61 := by
          by_cases h2 : (sp_run (sp_sm g (f0 + 2)) 0 6) < 2
          · exact Or.inl h2
          · right
            first
              | omega
              | (rw [show f0 + (sp_run (sp_sm g (f0 + 2)) 0 6) + 2 = t0 by omega]; omega)
        have hN9 : sp_one g c S f0 t0 = none := by unfold sp_one; rw [if_neg (by omega)]; unfold sp_parse; rw [if_neg (by omega), if_pos hbad]
        exact ly_iret x d_Model_takeRule_144 (dz_nbo (by omega)) ⟨by rw [hN9]; rfl, FJ, AJ, fun _ => RJ, fun u h => by rw [hN9] at h; cases h⟩
      · refine dz_aload_n x.1 0 d_Model_takeRule_119 rfl rfl ?_
        refine dz_getr x.1 (ly_Model b) fl_Model_7 (lr_Model_4 b) d_Model_takeRule_120 ?_
        refine dz_iload x.1 4 d_Model_takeRule_123 rfl ?_
        refine dz_cald (w := (g (f0 + (sp_run (sp_sm g (f0 + 2)) 0 6) + 2))) x.1 (ly_MTyped b) (by decide) (by omega) d_Model_takeRule_125 (TJ.2.2 (f0 + (sp_run (sp_sm g (f0 + 2)) 0 6) + 2) (by omega) (by omega)) ?_
        refine dz_bipush x.1 d_Model_takeRule_126 (by decide) ?_
        refine dz_icmp_ne (tgt := 143) x.1 d_Model_takeRule_128 (by decide) (by omega) (by omega) (fun hc128 => ?_) (fun hc128 => ?_)
        · refine dz_iconst x.1 d_Model_takeRule_143 ?_
          have hbad : (sp_run (sp_sm g (f0 + 2)) 0 6) < 2 ∨ ¬ g (f0 + (sp_run (sp_sm g (f0 + 2)) 0 6) + 2) = 61 := by
            by_cases h2 : (sp_run (sp_sm g (f0 + 2)) 0 6) < 2
            · exact Or.inl h2
            · right
              first
                | omega
                | (rw [show f0 + (sp_run (sp_sm g (f0 + 2)) 0 6) + 2 = t0 by omega]; omega)
          have hN9 : sp_one g c S f0 t0 = none := by unfold sp_one; rw [if_neg (by omega)]; unfold sp_parse; rw [if_neg (by omega), if_pos hbad]
          exact ly_iret x d_Model_takeRule_144 (dz_nbo (by omega)) ⟨by rw [hN9]; rfl, FJ, AJ, fun _ => RJ, fun u h => by rw [hN9] at h; cases h⟩
        · refine dz_aload_n x.1 0 d_Model_takeRule_131 rfl rfl ?_
          refine dz_iload x.1 4 d_Model_takeRule_132 rfl ?_
          refine dz_iconst x.1 d_Model_takeRule_134 ?_
          refine dz_iadd (z := f0 + (sp_run (sp_sm g (f0 + 2)) 0 6) + 3) x.1 d_Model_takeRule_135 (by omega) ?_
          refine dz_iload_n x.1 2 d_Model_takeRule_136 rfl rfl ?_
          refine ly_callV (rest := []) x cl_Model_89 (c_Model_readCells l D Dt b sz J n g TJ c RJ.1 hc9 (f0 + (sp_run (sp_sm g (f0 + 2)) 0 6) + 3) t0 (by omega) ht) (by decide) (ly_Model b) rfl rfl rfl rfl (Nat.le_of_ble_eq_true rfl) d_Model_takeRule_137 (fun v J2 hp137 => ?_)
          obtain ⟨rfl, hF2, hA2, hB2, hC2⟩ := hp137
          have TJ2 : sp_MT b J2 n g := TJ.fr (by rw [hF2 _ (fun h => by rcases h with h | h <;> omega)]) (hF2 _ (fun h => by rcases h with h | h <;> omega))
          have RJ2 : sp_MR b J2 c S := RJ.up (by rw [hF2 _ (fun h => by rcases h with h | h <;> omega)]) (fun j _ => by rw [hF2 _ (fun h => by rcases h with h | h <;> omega)]) (fun j _ => by rw [hF2 _ (fun h => by rcases h with h | h <;> omega)]) (fun j hj => hA2 j (by omega)) (fun j _ => by rw [hF2 _ (fun h => by rcases h with h | h <;> omega)]) hB2
          have FJ2 : sp_fr I J2 (fun q => q = b + 130 ∨ (b + 132 ≤ q ∧ q ≤ b + 136)) := FJ.tr hF2 (fun q h => Or.inr (by rcases h with h | h <;> omega))
          have AJ2 : ∀ k : Int, k ≠ 5 → J2 (b + 130) k = I (b + 130) k := fun k hk => by rw [hF2 _ (fun h => by rcases h with h | h <;> omega)]; exact AJ k hk
          show ly_V κ b sz J2 140 [(0, .ref (b + 130)), (1, .int (dz_i f0)), (2, .int (dz_i t0)), (3, .int (dz_i (sp_run (sp_sm g (f0 + 2)) 0 6))), (4, .int (dz_i (f0 + (sp_run (sp_sm g (f0 + 2)) 0 6) + 2)))] [.int (dz_i (if (sp_rc g (t0 - (f0 + (sp_run (sp_sm g (f0 + 2)) 0 6) + 3)).toNat (f0 + (sp_run (sp_sm g (f0 + 2)) 0 6) + 3) 0 0 (fun _ => 0)).isSome = true then 1 else 0))]
          refine dz_if_ne (tgt := 145) x.1 d_Model_takeRule_140 (by decide) (dz_br _) (fun hc140 => ?_) (fun hc140 => ?_)
          · have hc140 : (sp_rc g (t0 - (f0 + (sp_run (sp_sm g (f0 + 2)) 0 6) + 3)).toNat (f0 + (sp_run (sp_sm g (f0 + 2)) 0 6) + 3) 0 0 (fun _ => 0)).isSome = true := dz_bt hc140
            refine dz_aload_n x.1 0 d_Model_takeRule_145 rfl rfl ?_
            refine dz_getr x.1 (ly_Model b) fl_Model_13 (lr_Model_6 b) d_Model_takeRule_146 ?_
            refine dz_aload_n x.1 0 d_Model_takeRule_149 rfl rfl ?_
            refine dz_geti (z := (c : Int)) x.1 (ly_Model b) fl_Model_83 d_Model_takeRule_150 (by rw [hF2 _ (fun h => by rcases h with h | h <;> omega), hF _ (fun h => by have h : _ = _ := h; omega)]; exact RI.1) ?_
            refine dz_aload_n x.1 0 d_Model_takeRule_153 rfl rfl ?_
            refine dz_aload_n x.1 0 d_Model_takeRule_154 rfl rfl ?_
            refine dz_getr x.1 (ly_Model b) fl_Model_7 (lr_Model_4 b) d_Model_takeRule_155 ?_
            refine dz_iload_n x.1 1 d_Model_takeRule_158 rfl rfl ?_
            refine dz_cald (w := (g f0)) x.1 (ly_MTyped b) (by decide) (by omega) d_Model_takeRule_159 (TJ2.2.2 f0 (by omega) (by omega)) ?_
            refine ly_callV (rest := [.int (dz_i (c : Int)), .ref (b + 132)]) x cl_Model_86 (c_Model_kindOf l D Dt b sz J2 (g f0) (by omega)) (by decide) (ly_Model b) rfl rfl rfl rfl (Nat.le_of_ble_eq_true rfl) d_Model_takeRule_160 (fun v I' hp160 => ?_)
            obtain ⟨rfl, hp160I⟩ := hp160
            have hp160I := hp160I.symm
            subst hp160I
            show ly_V κ b sz J2 163 [(0, .ref (b + 130)), (1, .int (dz_i f0)), (2, .int (dz_i t0)), (3, .int (dz_i (sp_run (sp_sm g (f0 + 2)) 0 6))), (4, .int (dz_i (f0 + (sp_run (sp_sm g (f0 + 2)) 0 6) + 2)))] [.int (dz_i (sp_ix 0 (g f0))), .int (dz_i (c : Int)), .ref (b + 132)]
            refine dz_iast x.1 (ly_MKinds b) (by decide) (by omega) d_Model_takeRule_163 ?_
            refine dz_aload_n x.1 0 d_Model_takeRule_164 rfl rfl ?_
            refine dz_getr x.1 (ly_Model b) fl_Model_17 (lr_Model_7 b) d_Model_takeRule_165 ?_
            refine dz_aload_n x.1 0 d_Model_takeRule_168 rfl rfl ?_
            refine dz_geti (z := (c : Int)) x.1 (ly_Model b) fl_Model_83 d_Model_takeRule_169 (by rw [dz_up_n _ _ _ (by omega)]; exact (by rw [hF2 _ (fun h => by rcases h with h | h <;> omega), hF _ (fun h => by have h : _ = _ := h; omega)]; exact RI.1)) ?_
            refine dz_iload_n x.1 3 d_Model_takeRule_172 rfl rfl ?_
            refine dz_iast x.1 (ly_MLetterCount b) (by decide) (by omega) d_Model_takeRule_173 ?_
            obtain ⟨K, hK⟩ : ∃ K, K = dz_up (dz_up J2 (b + 132) (c : Int) (sp_ix 0 (g f0))) (b + 133) (c : Int) (sp_run (sp_sm g (f0 + 2)) 0 6) := ⟨_, rfl⟩
            obtain ⟨y9, hy9⟩ := Option.isSome_iff_exists.mp hc140
            obtain ⟨cn9, F9⟩ := y9
            have hpar : sp_parse g f0 t0 = some (sp_ix 0 (g f0), (sp_run (sp_sm g (f0 + 2)) 0 6), cn9, (fun j => g (f0 + 2 + j)), F9) := by unfold sp_parse; rw [if_neg (by omega), if_neg (by omega), hy9]
            have hwu := sp_parse_wf hpar
            have FK : sp_fr I K (fun q => q = b + 130 ∨ (b + 132 ≤ q ∧ q ≤ b + 136)) := by rw [hK]; exact (FJ2.up (Or.inr (by omega))).up (Or.inr (by omega))
            have AK : ∀ k : Int, k ≠ 5 → K (b + 130) k = I (b + 130) k := fun k hk => by rw [hK, dz_up_n _ _ _ (by omega), dz_up_n _ _ _ (by omega)]; exact AJ2 k hk
            have RK : sp_MR b K c S := by rw [hK]; exact RJ2.up (by rw [dz_up_n _ _ _ (by omega), dz_up_n _ _ _ (by omega)]) (fun j hj => by rw [dz_up_n _ _ _ (by omega), dz_up_k _ _ _ (by omega)]) (fun j hj => by rw [dz_up_k _ _ _ (by omega), dz_up_n _ _ _ (by omega)]) (fun j hj => by rw [dz_up_n _ _ _ (by omega), dz_up_n _ _ _ (by omega)]) (fun j hj => by rw [dz_up_n _ _ _ (by omega), dz_up_n _ _ _ (by omega)]) (fun j hj => by rw [dz_up_n _ _ _ (by omega), dz_up_n _ _ _ (by omega)])
            have k1 : K (b + 132) (c : Int) = sp_ix 0 (g f0) := by rw [hK, dz_up_n _ _ _ (by omega), dz_up_s]
            have k2 : K (b + 133) (c : Int) = (sp_run (sp_sm g (f0 + 2)) 0 6) := by rw [hK, dz_up_s]
            have k3 : ∀ j : Int, 0 ≤ j → j < (sp_run (sp_sm g (f0 + 2)) 0 6) → K (b + 134) (6 * (c : Int) + j) = g (f0 + 2 + j) := fun j j1 j2 => by rw [hK, dz_up_n _ _ _ (by omega), dz_up_n _ _ _ (by omega), hF2 _ (fun h => by rcases h with h | h <;> omega)]; exact hl j j1 j2
            have k4 : K (b + 135) (c : Int) = cn9 := by rw [hK, dz_up_n _ _ _ (by omega), dz_up_n _ _ _ (by omega)]; exact (hC2 _ _ hy9).1
            have k5 : ∀ j : Int, 0 ≤ j → j < cn9 → K (b + 136) (3 * (c : Int) + j) = F9 j := fun j j1 j2 => by rw [hK, dz_up_n _ _ _ (by omega), dz_up_n _ _ _ (by omega)]; exact (hC2 _ _ hy9).2 j j1 j2
            rw [← hK]
            show ly_V κ b sz K 174 [(0, .ref (b + 130)), (1, .int (dz_i f0)), (2, .int (dz_i t0)), (3, .int (dz_i (sp_run (sp_sm g (f0 + 2)) 0 6))), (4, .int (dz_i (f0 + (sp_run (sp_sm g (f0 + 2)) 0 6) + 2)))] []
            refine dz_aload_n x.1 0 d_Model_takeRule_174 rfl rfl ?_
            refine ly_callV (rest := []) x cl_Model_93 (c_Model_isThere l D Dt b sz K c S RK hc9 (sp_ix 0 (g f0), (sp_run (sp_sm g (f0 + 2)) 0 6), cn9, (fun j => g (f0 + 2 + j)), F9) k1 k2 k3 hwu) (by decide) (ly_Model b) rfl rfl rfl rfl (Nat.le_of_ble_eq_true rfl) d_Model_takeRule_175 (fun v I' hp175 => ?_)
            obtain ⟨rfl, hp175I⟩ := hp175
            have hp175I := hp175I.symm
            subst hp175I
            show ly_V κ b sz K 178 [(0, .ref (b + 130)), (1, .int (dz_i f0)), (2, .int (dz_i t0)), (3, .int (dz_i (sp_run (sp_sm g (f0 + 2)) 0 6))), (4, .int (dz_i (f0 + (sp_run (sp_sm g (f0 + 2)) 0 6) + 2)))] [.int (dz_i (if sp_any (fun r => sp_like (S r) (sp_ix 0 (g f0), (sp_run (sp_sm g (f0 + 2)) 0 6), cn9, (fun j => g (f0 + 2 + j)), F9)) c = true then 1 else 0))]
            refine dz_if_eq (tgt := 183) x.1 d_Model_takeRule_178 (by decide) (dz_br _) (fun hc178 => ?_) (fun hc178 => ?_)
            · have hc178 : ¬ (sp_any (fun r => sp_like (S r) (sp_ix 0 (g f0), (sp_run (sp_sm g (f0 + 2)) 0 6), cn9, (fun j => g (f0 + 2 + j)), F9)) c = true) := dz_bf hc178
              refine dz_aload_n x.1 0 d_Model_takeRule_183 rfl rfl ?_
              refine dz_dup x.1 d_Model_takeRule_184 rfl ?_
              refine dz_geti (z := (c : Int)) x.1 (ly_Model b) fl_Model_83 d_Model_takeRule_185 RK.1 ?_
              refine dz_iconst x.1 d_Model_takeRule_188 ?_
              refine dz_iadd (z := (c : Int) + 1) x.1 d_Model_takeRule_189 (by omega) ?_
              refine dz_puti x.1 (ly_Model b) fl_Model_83 fp_Model_5 d_Model_takeRule_190 ?_
              refine dz_iconst x.1 d_Model_takeRule_193 ?_
              have hN9 : sp_one g c S f0 t0 = some (sp_ix 0 (g f0), (sp_run (sp_sm g (f0 + 2)) 0 6), cn9, (fun j => g (f0 + 2 + j)), F9) := by unfold sp_one; rw [if_neg (by omega), hpar]; exact if_neg hc178
              exact ly_iret x d_Model_takeRule_194 (dz_nbo (by omega)) ⟨by rw [hN9]; rfl, FK.up (Or.inl rfl), fun k hk => by rw [dz_up_k _ _ _ hk]; exact AK k hk, fun h => (by rw [hN9] at h; cases h), fun u h => by
                rw [hN9] at h; cases h
                refine ⟨by rw [dz_up_s]; omega, by omega, fun r hr => ?_⟩
                by_cases e : r = c
                · subst e
                  have e2 : sp_set S r (sp_ix 0 (g f0), (sp_run (sp_sm g (f0 + 2)) 0 6), cn9, (fun j => g (f0 + 2 + j)), F9) r = (sp_ix 0 (g f0), (sp_run (sp_sm g (f0 + 2)) 0 6), cn9, (fun j => g (f0 + 2 + j)), F9) := if_pos rfl
                  rw [e2]
                  refine ⟨⟨?_, ?_, ?_, ?_, ?_⟩, hwu⟩
                  · rw [dz_up_n _ _ _ (by omega)]; exact k1
                  · rw [dz_up_n _ _ _ (by omega)]; exact k2
                  · rw [dz_up_n _ _ _ (by omega)]; exact k4
                  · intro j j1 j2; rw [dz_up_n _ _ _ (by omega)]; exact k3 j j1 j2
                  · intro j j1 j2; rw [dz_up_n _ _ _ (by omega)]; exact k5 j j1 j2
                · have e2 : sp_set S c (sp_ix 0 (g f0), (sp_run (sp_sm g (f0 + 2)) 0 6), cn9, (fun j => g (f0 + 2 + j)), F9) r = S r := if_neg e
                  rw [e2]
                  have h9 := RK.2.2 r (by omega)
                  unfold sp_mr at h9 ⊢
                  rw [dz_up_n _ _ _ (by omega), dz_up_n _ _ _ (by omega), dz_up_n _ _ _ (by omega), dz_up_n _ _ _ (by omega), dz_up_n _ _ _ (by omega)]
                  exact h9⟩
            · have hc178 : sp_any (fun r => sp_like (S r) (sp_ix 0 (g f0), (sp_run (sp_sm g (f0 + 2)) 0 6), cn9, (fun j => g (f0 + 2 + j)), F9)) c = true := dz_bt hc178
              refine dz_iconst x.1 d_Model_takeRule_181 ?_
              have hN9 : sp_one g c S f0 t0 = none := by unfold sp_one; rw [if_neg (by omega), hpar]; exact if_pos hc178
              exact ly_iret x d_Model_takeRule_182 (dz_nbo (by omega)) ⟨by rw [hN9]; rfl, FK, AK, fun _ => RK, fun u h => by rw [hN9] at h; cases h⟩
          · have hc140 : ¬ ((sp_rc g (t0 - (f0 + (sp_run (sp_sm g (f0 + 2)) 0 6) + 3)).toNat (f0 + (sp_run (sp_sm g (f0 + 2)) 0 6) + 3) 0 0 (fun _ => 0)).isSome = true) := dz_bf hc140
            refine dz_iconst x.1 d_Model_takeRule_143 ?_
            have hN9 : sp_one g c S f0 t0 = none := by unfold sp_one; rw [if_neg (by omega)]; unfold sp_parse; rw [if_neg (by omega), if_neg (by omega), Option.not_isSome_iff_eq_none.mp hc140]
            exact ly_iret x d_Model_takeRule_144 (dz_nbo (by omega)) ⟨by rw [hN9]; rfl, FJ2, AJ2, fun _ => RJ2, fun u h => by rw [hN9] at h; cases h⟩
  have loop : ∀ (k : Nat) (nn : Int) (J : dz_Hp), (0 ≤ nn ∧ nn + (k : Int) = 6) → (sp_fr I J (fun q => q = b + 134)) → (∀ j : Int, j < 6 * (c : Int) → J (b + 134) j = I (b + 134) j) → (∀ j : Int, 0 ≤ j → j < nn → J (b + 134) (6 * (c : Int) + j) = g (f0 + 2 + j)) → (∀ j : Int, 0 ≤ j → j < nn → sp_sm g (f0 + 2) j = true) → (c < 24) → (6 ≤ t0 - f0) → (0 ≤ sp_ix 0 (g f0) ∧ g (f0 + 1) = 32) → ly_V κ b sz J 52 [(0, .ref (b + 130)), (1, .int (dz_i f0)), (2, .int (dz_i t0)), (3, .int (dz_i nn)), (4, .int (dz_i (f0 + nn + 2)))] [] := by
    intro k
    induction k with
    | zero =>
      intro nn J hnn hF hO hl hs hc9 h6 hk0
      have TJ : sp_MT b J n g := TI.fr (by rw [hF _ (fun h => by have h : _ = _ := h; omega)]) (hF _ (fun h => by have h : _ = _ := h; omega))
      have hgx := TI.2.1.rng (f0 + nn + 2)
      have hit : f0 + 2 + nn ≤ t0 := by
        by_cases hz : f0 + 2 + nn ≤ t0
        · exact hz
        · have h1 := of_decide_eq_true (hs (t0 - (f0 + 2)) (by omega) (by omega))
          rw [show f0 + 2 + (t0 - (f0 + 2)) = t0 by omega] at h1
          omega
      refine dz_iload x.1 4 d_Model_takeRule_52 rfl ?_
      refine dz_iload_n x.1 2 d_Model_takeRule_54 rfl rfl ?_
      refine dz_icmp_ge (tgt := 108) x.1 d_Model_takeRule_55 (by decide) (by omega) (by omega) (fun hc55 => ?_) (fun hc55 => ?_)
      · have he : (sp_run (sp_sm g (f0 + 2)) 0 6) = nn := by
          refine sp_run_eq (by omega) (by omega) hs ?_
          first
            | exact Or.inl (by omega)
            | (right; exact decide_eq_false (by rw [show f0 + 2 + nn = f0 + nn + 2 by omega]; omega))
            | (right; have e9 : f0 + 2 + nn = t0 := (by omega); exact decide_eq_false (by rw [e9]; omega))
        have h9 := k108 J hF hO (by rw [he]; exact hl) hc9 h6 hk0
        rw [he] at h9
        exact h9
      · refine dz_aload_n x.1 0 d_Model_takeRule_58 rfl rfl ?_
        refine dz_aload_n x.1 0 d_Model_takeRule_59 rfl rfl ?_
        refine dz_getr x.1 (ly_Model b) fl_Model_7 (lr_Model_4 b) d_Model_takeRule_60 ?_
        refine dz_iload x.1 4 d_Model_takeRule_63 rfl ?_
        refine dz_cald (w := (g (f0 + nn + 2))) x.1 (ly_MTyped b) (by decide) (by omega) d_Model_takeRule_65 (TJ.2.2 (f0 + nn + 2) (by omega) (by omega)) ?_
        refine ly_callV (rest := []) x cl_Model_66 (c_Model_isSmall l D Dt b sz J (g (f0 + nn + 2)) (by omega)) (by decide) (ly_Model b) rfl rfl rfl rfl (Nat.le_of_ble_eq_true rfl) d_Model_takeRule_66 (fun v I' hp66 => ?_)
        obtain ⟨rfl, hp66I⟩ := hp66
        have hp66I := hp66I.symm
        subst hp66I
        show ly_V κ b sz J 69 [(0, .ref (b + 130)), (1, .int (dz_i f0)), (2, .int (dz_i t0)), (3, .int (dz_i nn)), (4, .int (dz_i (f0 + nn + 2)))] [.int (dz_i (if 97 ≤ (g (f0 + nn + 2)) ∧ (g (f0 + nn + 2)) ≤ 122 then 1 else 0))]
        refine dz_if_eq (tgt := 108) x.1 d_Model_takeRule_69 (by decide) (dz_br _) (fun hc69 => ?_) (fun hc69 => ?_)
        · have hc69 : ¬ (97 ≤ (g (f0 + nn + 2)) ∧ (g (f0 + nn + 2)) ≤ 122) := dz_bf hc69
          have he : (sp_run (sp_sm g (f0 + 2)) 0 6) = nn := by
            refine sp_run_eq (by omega) (by omega) hs ?_
            first
              | exact Or.inl (by omega)
              | (right; exact decide_eq_false (by rw [show f0 + 2 + nn = f0 + nn + 2 by omega]; omega))
              | (right; have e9 : f0 + 2 + nn = t0 := (by omega); exact decide_eq_false (by rw [e9]; omega))
          have h9 := k108 J hF hO (by rw [he]; exact hl) hc9 h6 hk0
          rw [he] at h9
          exact h9
        · have hc69 : 97 ≤ (g (f0 + nn + 2)) ∧ (g (f0 + nn + 2)) ≤ 122 := dz_bt hc69
          refine dz_iload_n x.1 3 d_Model_takeRule_72 rfl rfl ?_
          refine dz_bipush x.1 d_Model_takeRule_73 (by decide) ?_
          refine dz_icmp_ge (tgt := 108) x.1 d_Model_takeRule_75 (by decide) (by omega) (by omega) (fun hc75 => ?_) (fun hc75 => by exfalso; omega)
          have he : (sp_run (sp_sm g (f0 + 2)) 0 6) = nn := by
            refine sp_run_eq (by omega) (by omega) hs ?_
            first
              | exact Or.inl (by omega)
              | (right; exact decide_eq_false (by rw [show f0 + 2 + nn = f0 + nn + 2 by omega]; omega))
              | (right; have e9 : f0 + 2 + nn = t0 := (by omega); exact decide_eq_false (by rw [e9]; omega))
          have h9 := k108 J hF hO (by rw [he]; exact hl) hc9 h6 hk0
          rw [he] at h9
          exact h9
    | succ k ih =>
      intro nn J hnn hF hO hl hs hc9 h6 hk0
      have TJ : sp_MT b J n g := TI.fr (by rw [hF _ (fun h => by have h : _ = _ := h; omega)]) (hF _ (fun h => by have h : _ = _ := h; omega))
      have hgx := TI.2.1.rng (f0 + nn + 2)
      have hit : f0 + 2 + nn ≤ t0 := by
        by_cases hz : f0 + 2 + nn ≤ t0
        · exact hz
        · have h1 := of_decide_eq_true (hs (t0 - (f0 + 2)) (by omega) (by omega))
          rw [show f0 + 2 + (t0 - (f0 + 2)) = t0 by omega] at h1
          omega
      refine dz_iload x.1 4 d_Model_takeRule_52 rfl ?_
      refine dz_iload_n x.1 2 d_Model_takeRule_54 rfl rfl ?_
      refine dz_icmp_ge (tgt := 108) x.1 d_Model_takeRule_55 (by decide) (by omega) (by omega) (fun hc55 => ?_) (fun hc55 => ?_)
      · have he : (sp_run (sp_sm g (f0 + 2)) 0 6) = nn := by
          refine sp_run_eq (by omega) (by omega) hs ?_
          first
            | exact Or.inl (by omega)
            | (right; exact decide_eq_false (by rw [show f0 + 2 + nn = f0 + nn + 2 by omega]; omega))
            | (right; have e9 : f0 + 2 + nn = t0 := (by omega); exact decide_eq_false (by rw [e9]; omega))
        have h9 := k108 J hF hO (by rw [he]; exact hl) hc9 h6 hk0
        rw [he] at h9
        exact h9
      · refine dz_aload_n x.1 0 d_Model_takeRule_58 rfl rfl ?_
        refine dz_aload_n x.1 0 d_Model_takeRule_59 rfl rfl ?_
        refine dz_getr x.1 (ly_Model b) fl_Model_7 (lr_Model_4 b) d_Model_takeRule_60 ?_
        refine dz_iload x.1 4 d_Model_takeRule_63 rfl ?_
        refine dz_cald (w := (g (f0 + nn + 2))) x.1 (ly_MTyped b) (by decide) (by omega) d_Model_takeRule_65 (TJ.2.2 (f0 + nn + 2) (by omega) (by omega)) ?_
        refine ly_callV (rest := []) x cl_Model_66 (c_Model_isSmall l D Dt b sz J (g (f0 + nn + 2)) (by omega)) (by decide) (ly_Model b) rfl rfl rfl rfl (Nat.le_of_ble_eq_true rfl) d_Model_takeRule_66 (fun v I' hp66 => ?_)
        obtain ⟨rfl, hp66I⟩ := hp66
        have hp66I := hp66I.symm
        subst hp66I
        show ly_V κ b sz J 69 [(0, .ref (b + 130)), (1, .int (dz_i f0)), (2, .int (dz_i t0)), (3, .int (dz_i nn)), (4, .int (dz_i (f0 + nn + 2)))] [.int (dz_i (if 97 ≤ (g (f0 + nn + 2)) ∧ (g (f0 + nn + 2)) ≤ 122 then 1 else 0))]
        refine dz_if_eq (tgt := 108) x.1 d_Model_takeRule_69 (by decide) (dz_br _) (fun hc69 => ?_) (fun hc69 => ?_)
        · have hc69 : ¬ (97 ≤ (g (f0 + nn + 2)) ∧ (g (f0 + nn + 2)) ≤ 122) := dz_bf hc69
          have he : (sp_run (sp_sm g (f0 + 2)) 0 6) = nn := by
            refine sp_run_eq (by omega) (by omega) hs ?_
            first
              | exact Or.inl (by omega)
              | (right; exact decide_eq_false (by rw [show f0 + 2 + nn = f0 + nn + 2 by omega]; omega))
              | (right; have e9 : f0 + 2 + nn = t0 := (by omega); exact decide_eq_false (by rw [e9]; omega))
          have h9 := k108 J hF hO (by rw [he]; exact hl) hc9 h6 hk0
          rw [he] at h9
          exact h9
        · have hc69 : 97 ≤ (g (f0 + nn + 2)) ∧ (g (f0 + nn + 2)) ≤ 122 := dz_bt hc69
          refine dz_iload_n x.1 3 d_Model_takeRule_72 rfl rfl ?_
          refine dz_bipush x.1 d_Model_takeRule_73 (by decide) ?_
          refine dz_icmp_ge (tgt := 108) x.1 d_Model_takeRule_75 (by decide) (by omega) (by omega) (fun hc75 => by exfalso; omega) (fun hc75 => ?_)
          refine dz_aload_n x.1 0 d_Model_takeRule_78 rfl rfl ?_
          refine dz_getr x.1 (ly_Model b) fl_Model_20 (lr_Model_8 b) d_Model_takeRule_79 ?_
          refine dz_bipush x.1 d_Model_takeRule_82 (by decide) ?_
          refine dz_aload_n x.1 0 d_Model_takeRule_84 rfl rfl ?_
          refine dz_geti (z := (c : Int)) x.1 (ly_Model b) fl_Model_83 d_Model_takeRule_85 (by rw [hF _ (fun h => by have h : _ = _ := h; omega)]; exact RI.1) ?_
          refine dz_imul (z := 6 * (c : Int)) x.1 d_Model_takeRule_88 (by omega) ?_
          refine dz_iload_n x.1 3 d_Model_takeRule_89 rfl rfl ?_
          refine dz_iadd (z := 6 * (c : Int) + nn) x.1 d_Model_takeRule_90 (by omega) ?_
          refine dz_aload_n x.1 0 d_Model_takeRule_91 rfl rfl ?_
          refine dz_getr x.1 (ly_Model b) fl_Model_7 (lr_Model_4 b) d_Model_takeRule_92 ?_
          refine dz_iload x.1 4 d_Model_takeRule_95 rfl ?_
          refine dz_cald (w := (g (f0 + nn + 2))) x.1 (ly_MTyped b) (by decide) (by omega) d_Model_takeRule_97 (TJ.2.2 (f0 + nn + 2) (by omega) (by omega)) ?_
          refine dz_cast x.1 (ly_MLetters b) (by decide) (by omega) (by omega) d_Model_takeRule_98 ?_
          refine dz_iinc (z := nn + 1) (ls' := [(0, .ref (b + 130)), (1, .int (dz_i f0)), (2, .int (dz_i t0)), (3, .int (dz_i (nn + 1))), (4, .int (dz_i (f0 + nn + 2)))]) x.1 3 d_Model_takeRule_99 rfl hN (by decide) (by omega) rfl ?_
          refine dz_iinc (z := f0 + nn + 3) (ls' := [(0, .ref (b + 130)), (1, .int (dz_i f0)), (2, .int (dz_i t0)), (3, .int (dz_i (nn + 1))), (4, .int (dz_i (f0 + nn + 3)))]) x.1 4 d_Model_takeRule_102 rfl hN (by decide) (by omega) rfl ?_
          refine dz_goto (tgt := 52) x.1 d_Model_takeRule_105 (by decide) ?_
          have h9 := ih (nn + 1) (dz_up J (b + 134) (6 * (c : Int) + nn) (g (f0 + nn + 2))) (by omega) (hF.up rfl) (fun j hj => by rw [dz_up_k _ _ _ (by omega)]; exact hO j hj) (fun j j1 j2 => by
            by_cases e : j = nn
            · rw [e, dz_up_s, show f0 + 2 + nn = f0 + nn + 2 by omega]
            · rw [dz_up_k _ _ _ (by omega)]; exact hl j j1 (by omega)) (fun j j1 j2 => by
            by_cases e : j = nn
            · rw [e]; exact decide_eq_true (by rw [show f0 + 2 + nn = f0 + nn + 2 by omega]; exact hc69)
            · exact hs j j1 (by omega)) hc9 h6 hk0
          rw [show f0 + (nn + 1) + 2 = f0 + nn + 3 by omega] at h9
          exact h9
  show ly_V κ b sz I 0 [(0, .ref (b + 130)), (1, .int (dz_i f0)), (2, .int (dz_i t0))] []
  refine dz_aload_n x.1 0 d_Model_takeRule_0 rfl rfl ?_
  refine dz_geti (z := (c : Int)) x.1 (ly_Model b) fl_Model_83 d_Model_takeRule_1 RI.1 ?_
  refine dz_bipush x.1 d_Model_takeRule_4 (by decide) ?_
  refine dz_icmp_eq (tgt := 43) x.1 d_Model_takeRule_6 (by decide) (by omega) (by omega) (fun hc6 => ?_) (fun hc6 => ?_)
  · refine dz_iconst x.1 d_Model_takeRule_43 ?_
    have hN9 : sp_one g c S f0 t0 = none := by
      unfold sp_one
      first
        | rw [if_pos (by omega)]
        | (rw [if_neg (by omega), sp_parse_short hE TI.2.1 hf.2 (by omega)])
        | (rw [if_neg (by omega)]; unfold sp_parse; rw [if_pos (by omega)])
    exact ly_iret x d_Model_takeRule_44 (dz_nbo (by omega)) ⟨by rw [hN9]; rfl, sp_fr.rf, (fun k _ => rfl), fun _ => RI, fun u h => by rw [hN9] at h; cases h⟩
  · refine dz_iload_n x.1 2 d_Model_takeRule_9 rfl rfl ?_
    refine dz_iload_n x.1 1 d_Model_takeRule_10 rfl rfl ?_
    refine dz_isub (z := t0 - f0) x.1 d_Model_takeRule_11 (by omega) ?_
    refine dz_bipush x.1 d_Model_takeRule_12 (by decide) ?_
    refine dz_icmp_lt (tgt := 43) x.1 d_Model_takeRule_14 (by decide) (by omega) (by omega) (fun hc14 => ?_) (fun hc14 => ?_)
    · refine dz_iconst x.1 d_Model_takeRule_43 ?_
      have hN9 : sp_one g c S f0 t0 = none := by
        unfold sp_one
        first
          | rw [if_pos (by omega)]
          | (rw [if_neg (by omega), sp_parse_short hE TI.2.1 hf.2 (by omega)])
          | (rw [if_neg (by omega)]; unfold sp_parse; rw [if_pos (by omega)])
      exact ly_iret x d_Model_takeRule_44 (dz_nbo (by omega)) ⟨by rw [hN9]; rfl, sp_fr.rf, (fun k _ => rfl), fun _ => RI, fun u h => by rw [hN9] at h; cases h⟩
    · refine dz_aload_n x.1 0 d_Model_takeRule_17 rfl rfl ?_
      refine dz_aload_n x.1 0 d_Model_takeRule_18 rfl rfl ?_
      refine dz_getr x.1 (ly_Model b) fl_Model_7 (lr_Model_4 b) d_Model_takeRule_19 ?_
      refine dz_iload_n x.1 1 d_Model_takeRule_22 rfl rfl ?_
      refine dz_cald (w := (g f0)) x.1 (ly_MTyped b) (by decide) (by omega) d_Model_takeRule_23 (TI.2.2 f0 (by omega) (by omega)) ?_
      refine ly_callV (rest := []) x cl_Model_86 (c_Model_kindOf l D Dt b sz I (g f0) (by omega)) (by decide) (ly_Model b) rfl rfl rfl rfl (Nat.le_of_ble_eq_true rfl) d_Model_takeRule_24 (fun v I' hp24 => ?_)
      obtain ⟨rfl, hp24I⟩ := hp24
      have hp24I := hp24I.symm
      subst hp24I
      show ly_V κ b sz I 27 [(0, .ref (b + 130)), (1, .int (dz_i f0)), (2, .int (dz_i t0))] [.int (dz_i (sp_ix 0 (g f0)))]
      refine dz_if_lt (tgt := 43) x.1 d_Model_takeRule_27 (by decide) (by omega) (fun hc27 => ?_) (fun hc27 => ?_)
      · refine dz_iconst x.1 d_Model_takeRule_43 ?_
        have hN9 : sp_one g c S f0 t0 = none := by
          unfold sp_one
          first
            | rw [if_pos (by omega)]
            | (rw [if_neg (by omega), sp_parse_short hE TI.2.1 hf.2 (by omega)])
            | (rw [if_neg (by omega)]; unfold sp_parse; rw [if_pos (by omega)])
        exact ly_iret x d_Model_takeRule_44 (dz_nbo (by omega)) ⟨by rw [hN9]; rfl, sp_fr.rf, (fun k _ => rfl), fun _ => RI, fun u h => by rw [hN9] at h; cases h⟩
      · refine dz_aload_n x.1 0 d_Model_takeRule_30 rfl rfl ?_
        refine dz_getr x.1 (ly_Model b) fl_Model_7 (lr_Model_4 b) d_Model_takeRule_31 ?_
        refine dz_iload_n x.1 1 d_Model_takeRule_34 rfl rfl ?_
        refine dz_iconst x.1 d_Model_takeRule_35 ?_
        refine dz_iadd (z := f0 + 1) x.1 d_Model_takeRule_36 (by omega) ?_
        refine dz_cald (w := (g (f0 + 1))) x.1 (ly_MTyped b) (by decide) (by omega) d_Model_takeRule_37 (TI.2.2 (f0 + 1) (by omega) (by omega)) ?_
        refine dz_bipush x.1 d_Model_takeRule_38 (by decide) ?_
        refine dz_icmp_eq (tgt := 45) x.1 d_Model_takeRule_40 (by decide) (by omega) (by omega) (fun hc40 => ?_) (fun hc40 => ?_)
        · refine dz_iconst x.1 d_Model_takeRule_45 ?_
          refine dz_istore_n (ls' := [(0, .ref (b + 130)), (1, .int (dz_i f0)), (2, .int (dz_i t0)), (3, .int (dz_i 0))]) x.1 d_Model_takeRule_46 rfl hN (by decide) rfl ?_
          refine dz_iload_n x.1 1 d_Model_takeRule_47 rfl rfl ?_
          refine dz_iconst x.1 d_Model_takeRule_48 ?_
          refine dz_iadd (z := f0 + 2) x.1 d_Model_takeRule_49 (by omega) ?_
          refine dz_istore (ls' := [(0, .ref (b + 130)), (1, .int (dz_i f0)), (2, .int (dz_i t0)), (3, .int (dz_i 0)), (4, .int (dz_i (f0 + 2)))]) x.1 d_Model_takeRule_50 hN (by decide) rfl ?_
          have h9 := loop 6 0 I (by omega) sp_fr.rf (fun j _ => rfl) (fun j j1 j2 => by omega) (fun j j1 j2 => by omega) (by omega) (by omega) (by omega)
          rw [show f0 + 0 + 2 = f0 + 2 by omega] at h9
          exact h9
        · refine dz_iconst x.1 d_Model_takeRule_43 ?_
          have hN9 : sp_one g c S f0 t0 = none := by
            unfold sp_one
            first
              | rw [if_pos (by omega)]
              | (rw [if_neg (by omega), sp_parse_short hE TI.2.1 hf.2 (by omega)])
              | (rw [if_neg (by omega)]; unfold sp_parse; rw [if_pos (by omega)])
          exact ly_iret x d_Model_takeRule_44 (dz_nbo (by omega)) ⟨by rw [hN9]; rfl, sp_fr.rf, (fun k _ => rfl), fun _ => RI, fun u h => by rw [hN9] at h; cases h⟩
