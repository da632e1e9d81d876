theorem sp_tr_skip {n : Int} {g : Int → Int} (h : sp_tx n g) {c : Nat} {S : Nat → sp_Ru} {q : Int} (hq : 0 ≤ q ∧ q < n) : ∀ (k : Nat) (j : Int), q < j → j + (k : Int) = sp_we g q → sp_tr g c S (n - j).toNat j = sp_tr g c S (n - sp_we g q).toNat (sp_we g q) := by
  obtain ⟨w1, w2, w3, w4, w5, w6⟩ := sp_tx_we h (q := q) (by omega)
  intro k
  induction k with
  | zero => intro j h1 h2; rw [show j = sp_we g q by omega]
  | succ k ih =>
    intro j h1 h2
    rw [show (n - j).toNat = (n - (j + 1)).toNat + 1 by omega]
    simp only [sp_tr]
    rw [if_pos (w6 j (by omega) (by omega)), if_pos (w6 (j - 1) (by omega) (by omega)), List.nil_append]
    exact ih (j + 1) (by omega) (by omega)
theorem sp_tr_word {n : Int} {g : Int → Int} (h : sp_tx n g) {c : Nat} {S : Nat → sp_Ru} {q : Int} (hq : 0 ≤ q ∧ q < n) (hL : sp_isL g q = true) (hP : ¬ sp_isL g (q - 1) = true) : sp_tr g c S (n - q).toNat q = sp_wd g c S q ++ sp_tr g c S (n - sp_we g q).toNat (sp_we g q) := by
  obtain ⟨w1, w2, w3, w4, w5, w6⟩ := sp_tx_we h (q := q) (by omega)
  have hlt : q < sp_we g q := by
    by_cases e : q = sp_we g q
    · rw [← e, hL] at w5; cases w5
    · omega
  rw [show (n - q).toNat = (n - (q + 1)).toNat + 1 by omega]
  simp only [sp_tr]
  rw [if_pos hL, if_neg hP, sp_tr_skip h hq (sp_we g q - (q + 1)).toNat (q + 1) (by omega) (by omega)]
theorem sp_tr_one {n : Int} {g : Int → Int} {c : Nat} {S : Nat → sp_Ru} {q : Int} (hq : q < n) (hL : ¬ sp_isL g q = true) : sp_tr g c S (n - q).toNat q = (sp_s1 g q ++ (sp_cell (g q), q) :: sp_s3 g q) ++ sp_tr g c S (n - (q + 1)).toNat (q + 1) := by
  rw [show (n - q).toNat = (n - (q + 1)).toNat + 1 by omega]
  simp only [sp_tr]
  rw [if_neg hL]
theorem sp_cell_m {c : Int} (h1 : ¬ ((97 ≤ c ∧ c ≤ 122) ∨ (65 ≤ c ∧ c ≤ 90))) (h2 : ¬ (48 ≤ c ∧ c ≤ 57)) : sp_cell c = sp_mk c := by
  unfold sp_cell; rw [if_neg h1, if_neg h2, sp_mk_ix]
theorem sp_mk_pos (c : Int) : 0 < sp_mk c ↔ 0 ≤ sp_ix 1 c := by
  rw [sp_mk_ix]
  constructor
  · intro h
    by_cases h2 : 0 ≤ sp_ix 1 c
    · exact h2
    · rw [if_neg h2] at h; omega
  · intro h
    rw [if_pos h]
    have h7 := (sp_ix_rng 1 c).2
    have key : ∀ n : Nat, n < 8 → 0 < sp_mc (n : Int) := by decide +kernel
    have := key (sp_ix 1 c).toNat (by omega)
    rw [show (((sp_ix 1 c).toNat : Nat) : Int) = sp_ix 1 c by omega] at this
    exact this
set_option maxRecDepth 100000 in
set_option maxHeartbeats 4000000 in
theorem c_Model_translate (l : Launch) (D : va_G) (Dt : Nat → ClassId) (b sz : Nat) (I : dz_Hp) (n : Int) (g : Int → Int) (TI : sp_MT b I n g) (c : Nat) (S : Nat → sp_Ru) (RI : sp_MR b I c S) (nb : Nat) (NI : sp_N b I nb []) (hlen : (sp_tr g c S n.toNat 0).length ≤ 200) : ly_M l D Dt b sz y_Model_translate b_Model_translate 4 none 5 [.ref (b + 130)] I (fun v I' => v = none ∧ sp_fb b nb I I' ∧ sp_N b I' nb (sp_tr g c S n.toNat 0)) := by
  refine ly_enter R_Model (by decide) rfl (Nat.le_of_ble_eq_true rfl) (ly_cat _ 0 rfl) (fun κ x => ?_)
  have hN := ly_N x
  have hn9 := TI.2.1.1
  have hc24 := RI.2.1
  have FI : sp_fb b nb I I := sp_fb.rf
  have loop : ∀ (k : Nat) (q : Int) (O2 : List (Int × Int)) (J : dz_Hp), (0 ≤ q ∧ q ≤ n ∧ n - q ≤ (k : Int)) → (sp_isL g q = true → sp_isL g (q - 1) = false) → ((48 ≤ g q ∧ g q ≤ 57) → ¬ (48 ≤ g (q - 1) ∧ g (q - 1) ≤ 57)) → (sp_fb b nb I J) → (sp_N b J nb O2) → (O2 ++ sp_tr g c S (n - q).toNat q = sp_tr g c S n.toNat 0) → ly_V κ b sz J 2 [(0, .ref (b + 130)), (1, .int (dz_i q))] [] := by
    intro k
    induction k with
    | zero =>
      intro q O2 J hq hLp hDp FJ NJ hS
      refine dz_iload_n x.1 1 d_Model_translate_2 rfl rfl ?_
      refine dz_aload_n x.1 0 d_Model_translate_3 rfl rfl ?_
      refine dz_geti (z := n) x.1 (ly_Model b) fl_Model_80 d_Model_translate_4 (TI.fb FJ).1 ?_
      refine dz_icmp_ge (tgt := 203) x.1 d_Model_translate_7 (by decide) (by omega) (by omega) (fun hc7 => ?_) (fun hc7 => by exfalso; omega)
      exact ly_vret x d_Model_translate_203 ⟨rfl, FJ, by rw [show (n - q).toNat = 0 by omega] at hS; rw [← hS]; simpa [sp_tr] using NJ⟩
    | succ k ih =>
      intro q O2 J hq hLp hDp FJ NJ hS
      by_cases hqn : q < n
      · have hgq := TI.2.1.rng q
        have hT2 := hlen
        rw [← hS] at hT2
        have hgq1 := TI.2.1.rng (q + 1)
        have hgm := TI.2.1.rng (q - 1)
        have k56 : sp_isL g q = true → ly_V κ b sz J 56 [(0, .ref (b + 130)), (1, .int (dz_i q)), (2, .int (dz_i (sp_we g q))), (3, .int (dz_i (g q)))] [] := by
          intro hLq
          have hwe := sp_tx_we TI.2.1 (q := q) (by omega)
          have htw := sp_tr_word TI.2.1 (c := c) (S := S) (q := q) (by omega) hLq (fun hz => by rw [hLp hLq] at hz; cases hz)
          have hlt : q < sp_we g q := by
            by_cases e : q = sp_we g q
            · have w5 := hwe.2.2.2.2.1; rw [← e, hLq] at w5; cases w5
            · omega
          refine dz_aload_n x.1 0 d_Model_translate_56 rfl rfl ?_
          refine dz_iload_n x.1 1 d_Model_translate_57 rfl rfl ?_
          refine dz_iload_n x.1 2 d_Model_translate_58 rfl rfl ?_
          refine ly_callV (rest := []) x cl_Model_122 (c_Model_translateWord l D Dt b sz J n g (TI.fb FJ) c S (RI.fb FJ) nb O2 NJ q (sp_we g q) rfl (by omega) hLq (by rw [htw, ← List.append_assoc, List.length_append] at hT2; omega)) (by decide) (ly_Model b) rfl rfl rfl rfl (Nat.le_of_ble_eq_true rfl) d_Model_translate_59 (fun v J59 hp59 => ?_)
          obtain ⟨rfl, hf59, NJ59⟩ := hp59
          have FJ59 : sp_fb b nb I J59 := FJ.tr hf59
          show ly_V κ b sz J59 62 [(0, .ref (b + 130)), (1, .int (dz_i q)), (2, .int (dz_i (sp_we g q))), (3, .int (dz_i (g q)))] []
          refine dz_goto (tgt := 198) x.1 d_Model_translate_62 (by decide) ?_
          refine dz_iload_n x.1 2 d_Model_translate_198 rfl rfl ?_
          refine dz_istore_n (ls' := [(0, .ref (b + 130)), (1, .int (dz_i (sp_we g q))), (2, .int (dz_i (sp_we g q))), (3, .int (dz_i (g q)))]) x.1 d_Model_translate_199 rfl hN (by decide) rfl ?_
          refine dz_goto (tgt := 2) x.1 d_Model_translate_200 (by decide) ?_
          refine dz_take 2 (ls' := [(0, .ref (b + 130)), (1, .int (dz_i (sp_we g q)))]) rfl ?_
          exact ih (sp_we g q) (O2 ++ sp_wd g c S q) J59 (by omega) (fun hz => by rw [hwe.2.2.2.2.1] at hz; cases hz) (fun hz => by have hy := hwe.2.2.2.2.2 (sp_we g q - 1) (by omega) (by omega); rw [sp_isL_iff] at hy; omega) FJ59 NJ59 (by rw [← hS, htw, List.append_assoc])
        have loopw : ∀ (k2 : Nat) (x9 : Int), (q < x9 ∧ x9 + (k2 : Int) = n) → (∀ j : Int, q ≤ j → j < x9 → sp_isL g j = true) → ly_V κ b sz J 29 [(0, .ref (b + 130)), (1, .int (dz_i q)), (2, .int (dz_i x9)), (3, .int (dz_i (g q)))] [] := by
          intro k2
          induction k2 with
          | zero =>
            intro x9 hx9 hal
            refine dz_iload_n x.1 2 d_Model_translate_29 rfl rfl ?_
            refine dz_aload_n x.1 0 d_Model_translate_30 rfl rfl ?_
            refine dz_geti (z := n) x.1 (ly_Model b) fl_Model_80 d_Model_translate_31 (TI.fb FJ).1 ?_
            refine dz_icmp_ge (tgt := 56) x.1 d_Model_translate_34 (by decide) (by omega) (by omega) (fun hc34 => ?_) (fun hc34 => by exfalso; omega)
            have ew : sp_we g q = x9 := sp_run_eq (by omega) (by omega) hal (Or.inr (decide_eq_false (by first | exact hc47 | (have := TI.2.1.2.1 x9 (by omega); omega))))
            have h9 := k56 (hal q (by omega) (by omega))
            rw [ew] at h9
            exact h9
          | succ k2 ihw =>
            intro x9 hx9 hal
            have hgx := TI.2.1.rng x9
            refine dz_iload_n x.1 2 d_Model_translate_29 rfl rfl ?_
            refine dz_aload_n x.1 0 d_Model_translate_30 rfl rfl ?_
            refine dz_geti (z := n) x.1 (ly_Model b) fl_Model_80 d_Model_translate_31 (TI.fb FJ).1 ?_
            refine dz_icmp_ge (tgt := 56) x.1 d_Model_translate_34 (by decide) (by omega) (by omega) (fun hc34 => by exfalso; omega) (fun hc34 => ?_)
            refine dz_aload_n x.1 0 d_Model_translate_37 rfl rfl ?_
            refine dz_aload_n x.1 0 d_Model_translate_38 rfl rfl ?_
            refine dz_getr x.1 (ly_Model b) fl_Model_7 (lr_Model_4 b) d_Model_translate_39 ?_
            refine dz_iload_n x.1 2 d_Model_translate_42 rfl rfl ?_
            refine dz_cald (w := (g x9)) x.1 (ly_MTyped b) (by decide) (by omega) d_Model_translate_43 ((TI.fb FJ).2.2 x9 (by omega) (by omega)) ?_
            refine ly_callV (rest := []) x cl_Model_119 (c_Model_isLetter l D Dt b sz J (g x9) (by omega)) (by decide) (ly_Model b) rfl rfl rfl rfl (Nat.le_of_ble_eq_true rfl) d_Model_translate_44 (fun v I' hp44 => ?_)
            obtain ⟨rfl, hp44I⟩ := hp44
            have hp44I := hp44I.symm
            subst hp44I
            show ly_V κ b sz J 47 [(0, .ref (b + 130)), (1, .int (dz_i q)), (2, .int (dz_i x9)), (3, .int (dz_i (g q)))] [.int (dz_i (if (97 ≤ (g x9) ∧ (g x9) ≤ 122) ∨ (65 ≤ (g x9) ∧ (g x9) ≤ 90) then 1 else 0))]
            refine dz_if_eq (tgt := 56) x.1 d_Model_translate_47 (by decide) (dz_br _) (fun hc47 => ?_) (fun hc47 => ?_)
            · have hc47 : ¬ ((97 ≤ (g x9) ∧ (g x9) ≤ 122) ∨ (65 ≤ (g x9) ∧ (g x9) ≤ 90)) := dz_bf hc47
              have ew : sp_we g q = x9 := sp_run_eq (by omega) (by omega) hal (Or.inr (decide_eq_false (by first | exact hc47 | (have := TI.2.1.2.1 x9 (by omega); omega))))
              have h9 := k56 (hal q (by omega) (by omega))
              rw [ew] at h9
              exact h9
            · have hc47 : (97 ≤ (g x9) ∧ (g x9) ≤ 122) ∨ (65 ≤ (g x9) ∧ (g x9) ≤ 90) := dz_bt hc47
              refine dz_iinc (z := x9 + 1) (ls' := [(0, .ref (b + 130)), (1, .int (dz_i q)), (2, .int (dz_i (x9 + 1))), (3, .int (dz_i (g q)))]) x.1 2 d_Model_translate_50 rfl hN (by decide) (by omega) rfl ?_
              refine dz_goto (tgt := 29) x.1 d_Model_translate_53 (by decide) ?_
              exact ihw (x9 + 1) (by omega) (fun j j1 j2 => by
                by_cases e : j = x9
                · rw [e]; exact decide_eq_true hc47
                · exact hal j j1 (by omega))
        have k138 : ∀ (x9 : Int) (J9 : dz_Hp) (O3 : List (Int × Int)), (q < x9 ∧ x9 ≤ n) → (48 ≤ g (x9 - 1) ∧ g (x9 - 1) ≤ 57) → (¬ (48 ≤ g x9 ∧ g x9 ≤ 57)) → (sp_fb b nb I J9) → (sp_N b J9 nb O3) → (O3 ++ (sp_s3 g (x9 - 1) ++ sp_tr g c S (n - x9).toNat x9) = sp_tr g c S n.toNat 0) → ly_V κ b sz J9 138 [(0, .ref (b + 130)), (1, .int (dz_i q)), (2, .int (dz_i x9)), (3, .int (dz_i (g q)))] [] := by
          intro x9 J9 O3 hx9 hdx hnd FJ9 NJ9 hS3
          refine dz_iload_n x.1 2 d_Model_translate_138 rfl rfl ?_
          refine dz_aload_n x.1 0 d_Model_translate_139 rfl rfl ?_
          refine dz_geti (z := n) x.1 (ly_Model b) fl_Model_80 d_Model_translate_140 (TI.fb FJ9).1 ?_
          refine dz_icmp_ge (tgt := 198) x.1 d_Model_translate_143 (by decide) (by omega) (by omega) (fun hc143 => ?_) (fun hc143 => ?_)
          · refine dz_iload_n x.1 2 d_Model_translate_198 rfl rfl ?_
            refine dz_istore_n (ls' := [(0, .ref (b + 130)), (1, .int (dz_i x9)), (2, .int (dz_i x9)), (3, .int (dz_i (g q)))]) x.1 d_Model_translate_199 rfl hN (by decide) rfl ?_
            refine dz_goto (tgt := 2) x.1 d_Model_translate_200 (by decide) ?_
            refine dz_take 2 (ls' := [(0, .ref (b + 130)), (1, .int (dz_i x9))]) rfl ?_
            have es3 : sp_s3 g (x9 - 1) = [] := by unfold sp_s3; rw [if_neg (by rw [show x9 - 1 + 1 = x9 by omega]; first | omega | (have hz9 := TI.2.1.2.1 x9 (by omega); omega))]
            exact ih x9 (O3) J9 (by omega) (fun hz => by cases hw : sp_isL g (x9 - 1) with
              | false => rfl
              | true => rw [sp_isL_iff] at hw; omega) (fun hz => absurd hz hnd) FJ9 NJ9 (by rw [← hS3, es3]; simp)
          · have hgx := TI.2.1.rng x9
            refine dz_aload_n x.1 0 d_Model_translate_146 rfl rfl ?_
            refine dz_getr x.1 (ly_Model b) fl_Model_7 (lr_Model_4 b) d_Model_translate_147 ?_
            refine dz_iload_n x.1 2 d_Model_translate_150 rfl rfl ?_
            refine dz_cald (w := (g x9)) x.1 (ly_MTyped b) (by decide) (by omega) d_Model_translate_151 ((TI.fb FJ9).2.2 x9 (by omega) (by omega)) ?_
            refine dz_bipush x.1 d_Model_translate_152 (by decide) ?_
            refine dz_icmp_lt (tgt := 198) x.1 d_Model_translate_154 (by decide) (by omega) (by omega) (fun hc154 => ?_) (fun hc154 => ?_)
            · refine dz_iload_n x.1 2 d_Model_translate_198 rfl rfl ?_
              refine dz_istore_n (ls' := [(0, .ref (b + 130)), (1, .int (dz_i x9)), (2, .int (dz_i x9)), (3, .int (dz_i (g q)))]) x.1 d_Model_translate_199 rfl hN (by decide) rfl ?_
              refine dz_goto (tgt := 2) x.1 d_Model_translate_200 (by decide) ?_
              refine dz_take 2 (ls' := [(0, .ref (b + 130)), (1, .int (dz_i x9))]) rfl ?_
              have es3 : sp_s3 g (x9 - 1) = [] := by unfold sp_s3; rw [if_neg (by rw [show x9 - 1 + 1 = x9 by omega]; first | omega | (have hz9 := TI.2.1.2.1 x9 (by omega); omega))]
              exact ih x9 (O3) J9 (by omega) (fun hz => by cases hw : sp_isL g (x9 - 1) with
                | false => rfl
                | true => rw [sp_isL_iff] at hw; omega) (fun hz => absurd hz hnd) FJ9 NJ9 (by rw [← hS3, es3]; simp)
            · refine dz_aload_n x.1 0 d_Model_translate_157 rfl rfl ?_
              refine dz_getr x.1 (ly_Model b) fl_Model_7 (lr_Model_4 b) d_Model_translate_158 ?_
              refine dz_iload_n x.1 2 d_Model_translate_161 rfl rfl ?_
              refine dz_cald (w := (g x9)) x.1 (ly_MTyped b) (by decide) (by omega) d_Model_translate_162 ((TI.fb FJ9).2.2 x9 (by omega) (by omega)) ?_
              refine dz_bipush x.1 d_Model_translate_163 (by decide) ?_
              refine dz_icmp_gt (tgt := 198) x.1 d_Model_translate_165 (by decide) (by omega) (by omega) (fun hc165 => ?_) (fun hc165 => ?_)
              · refine dz_iload_n x.1 2 d_Model_translate_198 rfl rfl ?_
                refine dz_istore_n (ls' := [(0, .ref (b + 130)), (1, .int (dz_i x9)), (2, .int (dz_i x9)), (3, .int (dz_i (g q)))]) x.1 d_Model_translate_199 rfl hN (by decide) rfl ?_
                refine dz_goto (tgt := 2) x.1 d_Model_translate_200 (by decide) ?_
                refine dz_take 2 (ls' := [(0, .ref (b + 130)), (1, .int (dz_i x9))]) rfl ?_
                have es3 : sp_s3 g (x9 - 1) = [] := by unfold sp_s3; rw [if_neg (by rw [show x9 - 1 + 1 = x9 by omega]; first | omega | (have hz9 := TI.2.1.2.1 x9 (by omega); omega))]
                exact ih x9 (O3) J9 (by omega) (fun hz => by cases hw : sp_isL g (x9 - 1) with
                  | false => rfl
                  | true => rw [sp_isL_iff] at hw; omega) (fun hz => absurd hz hnd) FJ9 NJ9 (by rw [← hS3, es3]; simp)
              · refine dz_aload_n x.1 0 d_Model_translate_168 rfl rfl ?_
                refine dz_bipush x.1 d_Model_translate_169 (by decide) ?_
                refine dz_iload_n x.1 2 d_Model_translate_171 rfl rfl ?_
                refine ly_callV (rest := []) x cl_Model_111 (c_Model_add l D Dt b sz J9 nb (O3) NJ9 (by have hT3 := hlen; rw [← hS3] at hT3; have es3 : (sp_s3 g (x9 - 1)).length = 1 := (by unfold sp_s3; rw [if_pos (by rw [show x9 - 1 + 1 = x9 by omega]; omega)]; rfl); simp only [List.length_append] at hT3; omega) 48 x9) (by decide) (ly_Model b) rfl rfl rfl rfl (Nat.le_of_ble_eq_true rfl) d_Model_translate_172 (fun v J172 hp172 => ?_)
                obtain ⟨rfl, hfJ172, NJ172⟩ := hp172
                have FJ172 : sp_fb b nb I J172 := FJ9.tr hfJ172
                show ly_V κ b sz J172 175 [(0, .ref (b + 130)), (1, .int (dz_i q)), (2, .int (dz_i x9)), (3, .int (dz_i (g q)))] []
                refine dz_goto (tgt := 198) x.1 d_Model_translate_175 (by decide) ?_
                refine dz_iload_n x.1 2 d_Model_translate_198 rfl rfl ?_
                refine dz_istore_n (ls' := [(0, .ref (b + 130)), (1, .int (dz_i x9)), (2, .int (dz_i x9)), (3, .int (dz_i (g q)))]) x.1 d_Model_translate_199 rfl hN (by decide) rfl ?_
                refine dz_goto (tgt := 2) x.1 d_Model_translate_200 (by decide) ?_
                refine dz_take 2 (ls' := [(0, .ref (b + 130)), (1, .int (dz_i x9))]) rfl ?_
                have es3 : sp_s3 g (x9 - 1) = [(48, x9)] := by unfold sp_s3; rw [if_pos (by rw [show x9 - 1 + 1 = x9 by omega]; omega), show x9 - 1 + 1 = x9 by omega]
                exact ih x9 (O3 ++ [(48, x9)]) J172 (by omega) (fun hz => by cases hw : sp_isL g (x9 - 1) with
                  | false => rfl
                  | true => rw [sp_isL_iff] at hw; omega) (fun hz => absurd hz hnd) FJ172 NJ172 (by rw [← hS3, es3]; simp)
        have loopd : ∀ (k2 : Nat) (x9 : Int) (J9 : dz_Hp) (O3 : List (Int × Int)), (q < x9 ∧ x9 + (k2 : Int) = n) → (48 ≤ g (x9 - 1) ∧ g (x9 - 1) ≤ 57) → (sp_fb b nb I J9) → (sp_N b J9 nb O3) → (O3 ++ (sp_s3 g (x9 - 1) ++ sp_tr g c S (n - x9).toNat x9) = sp_tr g c S n.toNat 0) → ly_V κ b sz J9 93 [(0, .ref (b + 130)), (1, .int (dz_i q)), (2, .int (dz_i x9)), (3, .int (dz_i (g q)))] [] := by
          intro k2
          induction k2 with
          | zero =>
            intro x9 J9 O3 hx9 hdx FJ9 NJ9 hS3
            refine dz_iload_n x.1 2 d_Model_translate_93 rfl rfl ?_
            refine dz_aload_n x.1 0 d_Model_translate_94 rfl rfl ?_
            refine dz_geti (z := n) x.1 (ly_Model b) fl_Model_80 d_Model_translate_95 (TI.fb FJ9).1 ?_
            refine dz_icmp_ge (tgt := 138) x.1 d_Model_translate_98 (by decide) (by omega) (by omega) (fun hc98 => ?_) (fun hc98 => by exfalso; omega)
            exact k138 x9 J9 O3 (by omega) hdx (by first | exact hc111 | (have := TI.2.1.2.1 x9 (by omega); omega)) FJ9 NJ9 hS3
          | succ k2 ihd =>
            intro x9 J9 O3 hx9 hdx FJ9 NJ9 hS3
            have hgx := TI.2.1.rng x9
            refine dz_iload_n x.1 2 d_Model_translate_93 rfl rfl ?_
            refine dz_aload_n x.1 0 d_Model_translate_94 rfl rfl ?_
            refine dz_geti (z := n) x.1 (ly_Model b) fl_Model_80 d_Model_translate_95 (TI.fb FJ9).1 ?_
            refine dz_icmp_ge (tgt := 138) x.1 d_Model_translate_98 (by decide) (by omega) (by omega) (fun hc98 => by exfalso; omega) (fun hc98 => ?_)
            refine dz_aload_n x.1 0 d_Model_translate_101 rfl rfl ?_
            refine dz_aload_n x.1 0 d_Model_translate_102 rfl rfl ?_
            refine dz_getr x.1 (ly_Model b) fl_Model_7 (lr_Model_4 b) d_Model_translate_103 ?_
            refine dz_iload_n x.1 2 d_Model_translate_106 rfl rfl ?_
            refine dz_cald (w := (g x9)) x.1 (ly_MTyped b) (by decide) (by omega) d_Model_translate_107 ((TI.fb FJ9).2.2 x9 (by omega) (by omega)) ?_
            refine ly_callV (rest := []) x cl_Model_125 (c_Model_isDigit l D Dt b sz J9 (g x9) (by omega)) (by decide) (ly_Model b) rfl rfl rfl rfl (Nat.le_of_ble_eq_true rfl) d_Model_translate_108 (fun v I' hp108 => ?_)
            obtain ⟨rfl, hp108I⟩ := hp108
            have hp108I := hp108I.symm
            subst hp108I
            show ly_V κ b sz J9 111 [(0, .ref (b + 130)), (1, .int (dz_i q)), (2, .int (dz_i x9)), (3, .int (dz_i (g q)))] [.int (dz_i (if 48 ≤ (g x9) ∧ (g x9) ≤ 57 then 1 else 0))]
            refine dz_if_eq (tgt := 138) x.1 d_Model_translate_111 (by decide) (dz_br _) (fun hc111 => ?_) (fun hc111 => ?_)
            · have hc111 : ¬ (48 ≤ (g x9) ∧ (g x9) ≤ 57) := dz_bf hc111
              exact k138 x9 J9 O3 (by omega) hdx (by first | exact hc111 | (have := TI.2.1.2.1 x9 (by omega); omega)) FJ9 NJ9 hS3
            · have hc111 : 48 ≤ (g x9) ∧ (g x9) ≤ 57 := dz_bt hc111
              have hnx : sp_tr g c S (n - x9).toNat x9 = ([] ++ (sp_cell (g x9), x9) :: sp_s3 g x9) ++ sp_tr g c S (n - (x9 + 1)).toNat (x9 + 1) := by
                rw [sp_tr_one (by omega) (by rw [sp_isL_iff]; omega)]
                have e1 : sp_s1 g x9 = [] := by unfold sp_s1; rw [if_neg (fun z => z.2 hdx)]
                rw [e1]
              have es3 : sp_s3 g (x9 - 1) = [] := by unfold sp_s3; rw [if_neg (by rw [show x9 - 1 + 1 = x9 by omega]; omega)]
              refine dz_aload_n x.1 0 d_Model_translate_114 rfl rfl ?_
              refine dz_aload_n x.1 0 d_Model_translate_115 rfl rfl ?_
              refine dz_aload_n x.1 0 d_Model_translate_116 rfl rfl ?_
              refine dz_getr x.1 (ly_Model b) fl_Model_7 (lr_Model_4 b) d_Model_translate_117 ?_
              refine dz_iload_n x.1 2 d_Model_translate_120 rfl rfl ?_
              refine dz_cald (w := (g x9)) x.1 (ly_MTyped b) (by decide) (by omega) d_Model_translate_121 ((TI.fb FJ9).2.2 x9 (by omega) (by omega)) ?_
              refine dz_bipush x.1 d_Model_translate_122 (by decide) ?_
              refine dz_isub (z := (g x9) - 48) x.1 d_Model_translate_124 (by omega) ?_
              refine ly_callV (rest := [.ref (b + 130)]) x cl_Model_128 (by have h9 := c_Model_digitCell l D Dt b sz J9 (g x9 - 48) (by omega); rw [show g x9 - 48 + 48 = g x9 by omega] at h9; exact h9) (by decide) (ly_Model b) rfl rfl rfl rfl (Nat.le_of_ble_eq_true rfl) d_Model_translate_125 (fun v I' hp125 => ?_)
              obtain ⟨rfl, hp125I⟩ := hp125
              have hp125I := hp125I.symm
              subst hp125I
              show ly_V κ b sz J9 128 [(0, .ref (b + 130)), (1, .int (dz_i q)), (2, .int (dz_i x9)), (3, .int (dz_i (g q)))] [.int (dz_i (sp_cell (g x9))), .ref (b + 130)]
              refine dz_iload_n x.1 2 d_Model_translate_128 rfl rfl ?_
              refine ly_callV (rest := []) x cl_Model_111 (c_Model_add l D Dt b sz J9 nb (O3) NJ9 (by have hT3 := hlen; rw [← hS3, hnx] at hT3; simp only [List.length_append, List.length_cons] at hT3; omega) (sp_cell (g x9)) x9) (by decide) (ly_Model b) rfl rfl rfl rfl (Nat.le_of_ble_eq_true rfl) d_Model_translate_129 (fun v J129 hp129 => ?_)
              obtain ⟨rfl, hfJ129, NJ129⟩ := hp129
              have FJ129 : sp_fb b nb I J129 := FJ9.tr hfJ129
              show ly_V κ b sz J129 132 [(0, .ref (b + 130)), (1, .int (dz_i q)), (2, .int (dz_i x9)), (3, .int (dz_i (g q)))] []
              refine dz_iinc (z := x9 + 1) (ls' := [(0, .ref (b + 130)), (1, .int (dz_i q)), (2, .int (dz_i (x9 + 1))), (3, .int (dz_i (g q)))]) x.1 2 d_Model_translate_132 rfl hN (by decide) (by omega) rfl ?_
              refine dz_goto (tgt := 93) x.1 d_Model_translate_135 (by decide) ?_
              exact ihd (x9 + 1) J129 (O3 ++ [(sp_cell (g x9), x9)]) (by omega) (by rw [show x9 + 1 - 1 = x9 by omega]; exact hc111) FJ129 NJ129 (by rw [← hS3, hnx, es3, show x9 + 1 - 1 = x9 by omega]; simp)
        refine dz_iload_n x.1 1 d_Model_translate_2 rfl rfl ?_
        refine dz_aload_n x.1 0 d_Model_translate_3 rfl rfl ?_
        refine dz_geti (z := n) x.1 (ly_Model b) fl_Model_80 d_Model_translate_4 (TI.fb FJ).1 ?_
        refine dz_icmp_ge (tgt := 203) x.1 d_Model_translate_7 (by decide) (by omega) (by omega) (fun hc7 => by exfalso; omega) (fun hc7 => ?_)
        refine dz_iload_n x.1 1 d_Model_translate_10 rfl rfl ?_
        refine dz_iconst x.1 d_Model_translate_11 ?_
        refine dz_iadd (z := q + 1) x.1 d_Model_translate_12 (by omega) ?_
        refine dz_istore_n (ls' := [(0, .ref (b + 130)), (1, .int (dz_i q)), (2, .int (dz_i (q + 1)))]) x.1 d_Model_translate_13 rfl hN (by decide) rfl ?_
        refine dz_aload_n x.1 0 d_Model_translate_14 rfl rfl ?_
        refine dz_getr x.1 (ly_Model b) fl_Model_7 (lr_Model_4 b) d_Model_translate_15 ?_
        refine dz_iload_n x.1 1 d_Model_translate_18 rfl rfl ?_
        refine dz_cald (w := (g q)) x.1 (ly_MTyped b) (by decide) (by omega) d_Model_translate_19 ((TI.fb FJ).2.2 q (by omega) (by omega)) ?_
        refine dz_istore_n (ls' := [(0, .ref (b + 130)), (1, .int (dz_i q)), (2, .int (dz_i (q + 1))), (3, .int (dz_i (g q)))]) x.1 d_Model_translate_20 rfl hN (by decide) rfl ?_
        refine dz_aload_n x.1 0 d_Model_translate_21 rfl rfl ?_
        refine dz_iload_n x.1 3 d_Model_translate_22 rfl rfl ?_
        refine ly_callV (rest := []) x cl_Model_119 (c_Model_isLetter l D Dt b sz J (g q) (by omega)) (by decide) (ly_Model b) rfl rfl rfl rfl (Nat.le_of_ble_eq_true rfl) d_Model_translate_23 (fun v I' hp23 => ?_)
        obtain ⟨rfl, hp23I⟩ := hp23
        have hp23I := hp23I.symm
        subst hp23I
        show ly_V κ b sz J 26 [(0, .ref (b + 130)), (1, .int (dz_i q)), (2, .int (dz_i (q + 1))), (3, .int (dz_i (g q)))] [.int (dz_i (if (97 ≤ (g q) ∧ (g q) ≤ 122) ∨ (65 ≤ (g q) ∧ (g q) ≤ 90) then 1 else 0))]
        refine dz_if_eq (tgt := 65) x.1 d_Model_translate_26 (by decide) (dz_br _) (fun hc26 => ?_) (fun hc26 => ?_)
        · have hc26 : ¬ ((97 ≤ (g q) ∧ (g q) ≤ 122) ∨ (65 ≤ (g q) ∧ (g q) ≤ 90)) := dz_bf hc26
          refine dz_aload_n x.1 0 d_Model_translate_65 rfl rfl ?_
          refine dz_iload_n x.1 3 d_Model_translate_66 rfl rfl ?_
          refine ly_callV (rest := []) x cl_Model_125 (c_Model_isDigit l D Dt b sz J (g q) (by omega)) (by decide) (ly_Model b) rfl rfl rfl rfl (Nat.le_of_ble_eq_true rfl) d_Model_translate_67 (fun v I' hp67 => ?_)
          obtain ⟨rfl, hp67I⟩ := hp67
          have hp67I := hp67I.symm
          subst hp67I
          show ly_V κ b sz J 70 [(0, .ref (b + 130)), (1, .int (dz_i q)), (2, .int (dz_i (q + 1))), (3, .int (dz_i (g q)))] [.int (dz_i (if 48 ≤ (g q) ∧ (g q) ≤ 57 then 1 else 0))]
          refine dz_if_eq (tgt := 178) x.1 d_Model_translate_70 (by decide) (dz_br _) (fun hc70 => ?_) (fun hc70 => ?_)
          · have hc70 : ¬ (48 ≤ (g q) ∧ (g q) ≤ 57) := dz_bf hc70
            have hto := sp_tr_one (c := c) (S := S) (q := q) hqn (fun hz => hc26 (sp_isL_iff.mp hz))
            have es1 : sp_s1 g q = [] := by unfold sp_s1; rw [if_neg (fun z => hc70 z.1)]
            have es3 : sp_s3 g q = [] := by unfold sp_s3; rw [if_neg (fun z => hc70 z.1)]
            refine dz_aload_n x.1 0 d_Model_translate_178 rfl rfl ?_
            refine dz_iload_n x.1 3 d_Model_translate_179 rfl rfl ?_
            refine dz_bipush x.1 d_Model_translate_180 (by decide) ?_
            refine dz_icmp_ne (tgt := 189) x.1 d_Model_translate_182 (by decide) (by omega) (by omega) (fun hc182 => ?_) (fun hc182 => ?_)
            · refine dz_aload_n x.1 0 d_Model_translate_189 rfl rfl ?_
              refine dz_iload_n x.1 3 d_Model_translate_190 rfl rfl ?_
              refine ly_callV (rest := [.ref (b + 130)]) x cl_Model_73 (c_Model_markOf l D Dt b sz J (g q) (by omega)) (by decide) (ly_Model b) rfl rfl rfl rfl (Nat.le_of_ble_eq_true rfl) d_Model_translate_191 (fun v I' hp191 => ?_)
              obtain ⟨rfl, hp191I⟩ := hp191
              have hp191I := hp191I.symm
              subst hp191I
              show ly_V κ b sz J 194 [(0, .ref (b + 130)), (1, .int (dz_i q)), (2, .int (dz_i (q + 1))), (3, .int (dz_i (g q)))] [.int (dz_i (sp_mk (g q))), .ref (b + 130)]
              refine dz_iload_n x.1 1 d_Model_translate_194 rfl rfl ?_
              have ecl : sp_cell (g q) = (sp_mk (g q)) := by
                first
                  | (rw [hc182]; decide +kernel)
                  | exact sp_cell_m hc26 hc70
              refine ly_callV (rest := []) x cl_Model_111 (c_Model_add l D Dt b sz J nb (O2) NJ (by rw [hto] at hT2; simp only [List.length_append, List.length_cons] at hT2; omega) (sp_mk (g q)) q) (by decide) (ly_Model b) rfl rfl rfl rfl (Nat.le_of_ble_eq_true rfl) d_Model_translate_195 (fun v J195 hp195 => ?_)
              obtain ⟨rfl, hfJ195, NJ195⟩ := hp195
              have FJ195 : sp_fb b nb I J195 := FJ.tr hfJ195
              show ly_V κ b sz J195 198 [(0, .ref (b + 130)), (1, .int (dz_i q)), (2, .int (dz_i (q + 1))), (3, .int (dz_i (g q)))] []
              refine dz_iload_n x.1 2 d_Model_translate_198 rfl rfl ?_
              refine dz_istore_n (ls' := [(0, .ref (b + 130)), (1, .int (dz_i (q + 1))), (2, .int (dz_i (q + 1))), (3, .int (dz_i (g q)))]) x.1 d_Model_translate_199 rfl hN (by decide) rfl ?_
              refine dz_goto (tgt := 2) x.1 d_Model_translate_200 (by decide) ?_
              refine dz_take 2 (ls' := [(0, .ref (b + 130)), (1, .int (dz_i (q + 1)))]) rfl ?_
              exact ih (q + 1) _ J195 (by omega) (fun hz => by rw [show q + 1 - 1 = q by omega]; cases hw : sp_isL g q with
                | false => rfl
                | true => exact absurd (sp_isL_iff.mp hw) hc26) (fun hz => by rw [show q + 1 - 1 = q by omega]; exact hc70) FJ195 NJ195 (by rw [← hS, hto, es1, es3, ecl]; simp)
            · refine dz_iconst x.1 d_Model_translate_185 ?_
              refine dz_goto (tgt := 194) x.1 d_Model_translate_186 (by decide) ?_
              refine dz_iload_n x.1 1 d_Model_translate_194 rfl rfl ?_
              have ecl : sp_cell (g q) = 0 := by
                first
                  | (rw [hc182]; decide +kernel)
                  | exact sp_cell_m hc26 hc70
              refine ly_callV (rest := []) x cl_Model_111 (c_Model_add l D Dt b sz J nb (O2) NJ (by rw [hto] at hT2; simp only [List.length_append, List.length_cons] at hT2; omega) 0 q) (by decide) (ly_Model b) rfl rfl rfl rfl (Nat.le_of_ble_eq_true rfl) d_Model_translate_195 (fun v J195 hp195 => ?_)
              obtain ⟨rfl, hfJ195, NJ195⟩ := hp195
              have FJ195 : sp_fb b nb I J195 := FJ.tr hfJ195
              show ly_V κ b sz J195 198 [(0, .ref (b + 130)), (1, .int (dz_i q)), (2, .int (dz_i (q + 1))), (3, .int (dz_i (g q)))] []
              refine dz_iload_n x.1 2 d_Model_translate_198 rfl rfl ?_
              refine dz_istore_n (ls' := [(0, .ref (b + 130)), (1, .int (dz_i (q + 1))), (2, .int (dz_i (q + 1))), (3, .int (dz_i (g q)))]) x.1 d_Model_translate_199 rfl hN (by decide) rfl ?_
              refine dz_goto (tgt := 2) x.1 d_Model_translate_200 (by decide) ?_
              refine dz_take 2 (ls' := [(0, .ref (b + 130)), (1, .int (dz_i (q + 1)))]) rfl ?_
              exact ih (q + 1) _ J195 (by omega) (fun hz => by rw [show q + 1 - 1 = q by omega]; cases hw : sp_isL g q with
                | false => rfl
                | true => exact absurd (sp_isL_iff.mp hw) hc26) (fun hz => by rw [show q + 1 - 1 = q by omega]; exact hc70) FJ195 NJ195 (by rw [← hS, hto, es1, es3, ecl]; simp)
          · have hc70 : 48 ≤ (g q) ∧ (g q) ≤ 57 := dz_bt hc70
            have hto := sp_tr_one (c := c) (S := S) (q := q) hqn (fun hz => hc26 (sp_isL_iff.mp hz))
            have es1 : sp_s1 g q = [(60, q)] := by unfold sp_s1; rw [if_pos ⟨hc70, hDp hc70⟩]
            refine dz_aload_n x.1 0 d_Model_translate_73 rfl rfl ?_
            refine dz_bipush x.1 d_Model_translate_74 (by decide) ?_
            refine dz_iload_n x.1 1 d_Model_translate_76 rfl rfl ?_
            refine ly_callV (rest := []) x cl_Model_111 (c_Model_add l D Dt b sz J nb (O2) NJ (by rw [hto, es1] at hT2; simp only [List.length_append, List.length_cons, List.length_nil] at hT2; omega) 60 q) (by decide) (ly_Model b) rfl rfl rfl rfl (Nat.le_of_ble_eq_true rfl) d_Model_translate_77 (fun v J77 hp77 => ?_)
            obtain ⟨rfl, hfJ77, NJ77⟩ := hp77
            have FJ77 : sp_fb b nb I J77 := FJ.tr hfJ77
            show ly_V κ b sz J77 80 [(0, .ref (b + 130)), (1, .int (dz_i q)), (2, .int (dz_i (q + 1))), (3, .int (dz_i (g q)))] []
            refine dz_aload_n x.1 0 d_Model_translate_80 rfl rfl ?_
            refine dz_aload_n x.1 0 d_Model_translate_81 rfl rfl ?_
            refine dz_iload_n x.1 3 d_Model_translate_82 rfl rfl ?_
            refine dz_bipush x.1 d_Model_translate_83 (by decide) ?_
            refine dz_isub (z := (g q) - 48) x.1 d_Model_translate_85 (by omega) ?_
            refine ly_callV (rest := [.ref (b + 130)]) x cl_Model_128 (by have h9 := c_Model_digitCell l D Dt b sz J77 (g q - 48) (by omega); rw [show g q - 48 + 48 = g q by omega] at h9; exact h9) (by decide) (ly_Model b) rfl rfl rfl rfl (Nat.le_of_ble_eq_true rfl) d_Model_translate_86 (fun v I' hp86 => ?_)
            obtain ⟨rfl, hp86I⟩ := hp86
            have hp86I := hp86I.symm
            subst hp86I
            show ly_V κ b sz J77 89 [(0, .ref (b + 130)), (1, .int (dz_i q)), (2, .int (dz_i (q + 1))), (3, .int (dz_i (g q)))] [.int (dz_i (sp_cell (g q))), .ref (b + 130)]
            refine dz_iload_n x.1 1 d_Model_translate_89 rfl rfl ?_
            refine ly_callV (rest := []) x cl_Model_111 (c_Model_add l D Dt b sz J77 nb (O2 ++ [(60, q)]) NJ77 (by rw [hto, es1] at hT2; simp only [List.length_append, List.length_cons, List.length_nil] at hT2 ⊢; omega) (sp_cell (g q)) q) (by decide) (ly_Model b) rfl rfl rfl rfl (Nat.le_of_ble_eq_true rfl) d_Model_translate_90 (fun v J90 hp90 => ?_)
            obtain ⟨rfl, hfJ90, NJ90⟩ := hp90
            have FJ90 : sp_fb b nb I J90 := FJ77.tr hfJ90
            show ly_V κ b sz J90 93 [(0, .ref (b + 130)), (1, .int (dz_i q)), (2, .int (dz_i (q + 1))), (3, .int (dz_i (g q)))] []
            exact loopd (n - (q + 1)).toNat (q + 1) J90 _ (by omega) (by rw [show q + 1 - 1 = q by omega]; exact hc70) FJ90 NJ90 (by rw [← hS, hto, es1, show q + 1 - 1 = q by omega]; simp)
        · have hc26 : (97 ≤ (g q) ∧ (g q) ≤ 122) ∨ (65 ≤ (g q) ∧ (g q) ≤ 90) := dz_bt hc26
          exact loopw (n - (q + 1)).toNat (q + 1) (by omega) (fun j j1 j2 => by rw [show j = q by omega]; exact decide_eq_true hc26)
      · have hq0 : (n - q).toNat = 0 := by omega
        refine dz_iload_n x.1 1 d_Model_translate_2 rfl rfl ?_
        refine dz_aload_n x.1 0 d_Model_translate_3 rfl rfl ?_
        refine dz_geti (z := n) x.1 (ly_Model b) fl_Model_80 d_Model_translate_4 (TI.fb FJ).1 ?_
        refine dz_icmp_ge (tgt := 203) x.1 d_Model_translate_7 (by decide) (by omega) (by omega) (fun hc7 => ?_) (fun hc7 => by exfalso; omega)
        exact ly_vret x d_Model_translate_203 ⟨rfl, FJ, by rw [hq0] at hS; rw [← hS]; simpa [sp_tr] using NJ⟩
  show ly_V κ b sz I 0 [(0, .ref (b + 130))] []
  refine dz_iconst x.1 d_Model_translate_0 ?_
  refine dz_istore_n (ls' := [(0, .ref (b + 130)), (1, .int (dz_i 0))]) x.1 d_Model_translate_1 rfl hN (by decide) rfl ?_
  exact loop n.toNat 0 [] I (by omega) (fun hz => by have h0 := TI.2.1.2.1 (0 - 1) (by omega); unfold sp_isL; exact decide_eq_false (by omega)) (fun hz => by have h0 := TI.2.1.2.1 (0 - 1) (by omega); omega) FI NI (by rw [show (n - 0).toNat = n.toNat by omega]; rfl)
