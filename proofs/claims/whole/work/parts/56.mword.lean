theorem sp_MR.wf {b : Nat} {J : dz_Hp} {c : Nat} {S : Nat → sp_Ru} (h : sp_MR b J c S) : ∀ r, r < c → sp_rwf (S r) := fun r hr => (h.2.2 r hr).2
theorem sp_mcl_small {c : Int} (h : (97 ≤ c ∧ c ≤ 122) ∨ (65 ≤ c ∧ c ≤ 90)) : sp_mcl (sp_small c) = sp_cell c := by
  have h2 := sp_small_l h
  unfold sp_mcl sp_cell
  rw [if_pos h2, if_pos h]
theorem sp_N.fr {b : Nat} {I J : dz_Hp} {nb : Nat} {O : List (Int × Int)} (H : sp_N b I nb O) (h1 : J (b + 130) 12 = I (b + 130) 12) (h2 : ∀ q, b + 138 ≤ q → q ≤ b + 140 → J q = I q) : sp_N b J nb O := by
  unfold sp_N; rw [h1, h2 _ (by omega) (by omega), h2 _ (by omega) (by omega), h2 (b + 140) (by omega) (by omega)]; exact H
set_option maxRecDepth 100000 in
set_option maxHeartbeats 4000000 in
theorem c_Model_translateWord (l : Launch) (D : va_G) (Dt : Nat → ClassId) (b sz : Nat) (I : dz_Hp) (n : Int) (g : Int → Int) (TI : sp_MT b I n g) (c : Nat) (S : Nat → sp_Ru) (RI : sp_MR b I c S) (nb : Nat) (O : List (Int × Int)) (NI : sp_N b I nb O) (bg e : Int) (he : e = sp_we g bg) (hbg : 0 ≤ bg ∧ bg < n) (hL : sp_isL g bg = true) (hlen : (O ++ sp_wd g c S bg).length ≤ 200) : ly_M l D Dt b sz y_Model_translateWord b_Model_translateWord 8 none 4 [.ref (b + 130), .int (dz_i bg), .int (dz_i e)] I (fun v I' => v = none ∧ sp_fb b nb I I' ∧ sp_N b I' nb (O ++ sp_wd g c S bg)) := by
  refine ly_enter R_Model (by decide) rfl (Nat.le_of_ble_eq_true rfl) (ly_cat _ 0 rfl) (fun κ x => ?_)
  have hN := ly_N x
  have hn9 := TI.2.1.1
  have hc24 := RI.2.1
  have hwe := sp_tx_we TI.2.1 (q := bg) (by omega)
  rw [← he] at hwe
  have FI : sp_fb b nb I I := sp_fb.rf
  obtain ⟨a, ha⟩ : ∃ a, a = sp_wc g bg e := ⟨_, rfl⟩
  have hwd : sp_wd g c S bg = sp_wp a bg ++ sp_wl (sp_step g c S bg e a) e 100 bg := by unfold sp_wd; rw [← he, ← ha]
  have loop : ∀ (k : Nat) (p : Int) (f : Nat) (O2 : List (Int × Int)) (J : dz_Hp), (bg ≤ p ∧ p ≤ e ∧ e - p ≤ (k : Int)) → (e - p ≤ (f : Int)) → (sp_fb b nb I J) → (sp_N b J nb O2) → (O2 ++ sp_wl (sp_step g c S bg e a) e f p = O ++ sp_wd g c S bg) → ly_V κ b sz J 73 [(0, .ref (b + 130)), (1, .int (dz_i bg)), (2, .int (dz_i e)), (3, .int (dz_i (if a = true then 1 else 0))), (4, .int (dz_i p))] [] := by
    intro k
    induction k with
    | zero =>
      intro p f O2 J hp hf FJ NJ hS
      refine dz_iload x.1 4 d_Model_translateWord_73 rfl ?_
      refine dz_iload_n x.1 2 d_Model_translateWord_75 rfl rfl ?_
      refine dz_icmp_ge (tgt := 303) x.1 d_Model_translateWord_76 (by decide) (by omega) (by omega) (fun hc76 => ?_) (fun hc76 => by exfalso; omega)
      exact ly_vret x d_Model_translateWord_303 ⟨rfl, FJ, by rw [sp_wl_nil (by omega), List.append_nil] at hS; rw [← hS]; exact NJ⟩
    | succ k ih =>
      intro p f O2 J hp hf FJ NJ hS
      by_cases hpe : p < e
      · have hstp := sp_step_b (a := a) (p := p) RI.wf he ⟨hp.1, hpe⟩ (by omega)
        have hwl := sp_wl_step (F := (sp_step g c S bg e a)) (e := e) (p := p) hpe (k := f) (by omega)
        have hgp := TI.2.1.rng p
        have hLp := hwe.2.2.2.2.2 p hp.1 hpe
        rw [sp_isL_iff] at hLp
        have hT2 := hlen
        rw [← hS, hwl] at hT2
        simp only [List.length_append] at hT2
        have k217 : ∀ (J3 : dz_Hp) (O3 : List (Int × Int)) (bv : Int), (sp_fb b nb I J3) → (sp_N b J3 nb O3) → (O3 = O2 ++ sp_sgn g a p) → ((bv = -1 ∧ sp_best (sp_mt g S bg e a p) (sp_btr S) c = none) ∨ (∃ j : Nat, j < c ∧ bv = (j : Int) ∧ sp_best (sp_mt g S bg e a p) (sp_btr S) c = some j)) → ly_V κ b sz J3 217 [(0, .ref (b + 130)), (1, .int (dz_i bg)), (2, .int (dz_i e)), (3, .int (dz_i (if a = true then 1 else 0))), (4, .int (dz_i p)), (5, .int (dz_i bv)), (6, .int (dz_i (c : Int)))] [] := by
          intro J3 O3 bv FJ3 NJ3 hO3 hbv
          rcases hbv with ⟨rfl, hb⟩ | ⟨j, hj, rfl, hb⟩
          · have hst : (sp_step g c S bg e a p) = (sp_sgn g a p ++ [(sp_cell (g p), p)], 1) := by unfold sp_step; rw [hb]
            refine dz_iload x.1 5 d_Model_translateWord_217 rfl ?_
            refine dz_if_ge (tgt := 249) x.1 d_Model_translateWord_219 (by decide) (by omega) (fun hc219 => by exfalso; omega) (fun hc219 => ?_)
            refine dz_aload_n x.1 0 d_Model_translateWord_222 rfl rfl ?_
            refine dz_aload_n x.1 0 d_Model_translateWord_223 rfl rfl ?_
            refine dz_aload_n x.1 0 d_Model_translateWord_224 rfl rfl ?_
            refine dz_aload_n x.1 0 d_Model_translateWord_225 rfl rfl ?_
            refine dz_getr x.1 (ly_Model b) fl_Model_7 (lr_Model_4 b) d_Model_translateWord_226 ?_
            refine dz_iload x.1 4 d_Model_translateWord_229 rfl ?_
            refine dz_cald (w := (g p)) x.1 (ly_MTyped b) (by decide) (by omega) d_Model_translateWord_231 ((TI.fb FJ3).2.2 p (by omega) (by omega)) ?_
            refine ly_callV (rest := [.ref (b + 130), .ref (b + 130)]) x cl_Model_107 (c_Model_small l D Dt b sz J3 (g p) (by omega)) (by decide) (ly_Model b) rfl rfl rfl rfl (Nat.le_of_ble_eq_true rfl) d_Model_translateWord_232 (fun v I' hp232 => ?_)
            obtain ⟨rfl, hp232I⟩ := hp232
            have hp232I := hp232I.symm
            subst hp232I
            have hsm := sp_small_l (c := g p) hLp
            show ly_V κ b sz J3 235 [(0, .ref (b + 130)), (1, .int (dz_i bg)), (2, .int (dz_i e)), (3, .int (dz_i (if a = true then 1 else 0))), (4, .int (dz_i p)), (5, .int (dz_i (-1))), (6, .int (dz_i (c : Int)))] [.int (dz_i (sp_small (g p))), .ref (b + 130), .ref (b + 130)]
            refine ly_callV (rest := [.ref (b + 130)]) x cl_Model_77 (by have h9 := c_Model_cellOf l D Dt b sz J3 (sp_small (g p)) (by omega); rw [sp_mcl_small hLp] at h9; exact h9) (by decide) (ly_Model b) rfl rfl rfl rfl (Nat.le_of_ble_eq_true rfl) d_Model_translateWord_235 (fun v I' hp235 => ?_)
            obtain ⟨rfl, hp235I⟩ := hp235
            have hp235I := hp235I.symm
            subst hp235I
            show ly_V κ b sz J3 238 [(0, .ref (b + 130)), (1, .int (dz_i bg)), (2, .int (dz_i e)), (3, .int (dz_i (if a = true then 1 else 0))), (4, .int (dz_i p)), (5, .int (dz_i (-1))), (6, .int (dz_i (c : Int)))] [.int (dz_i (sp_cell (g p))), .ref (b + 130)]
            refine dz_iload x.1 4 d_Model_translateWord_238 rfl ?_
            refine ly_callV (rest := []) x cl_Model_111 (c_Model_add l D Dt b sz J3 nb (O3) NJ3 (by rw [hO3]; rw [hst] at hT2; simp only [List.length_append, List.length_cons, List.length_nil] at hT2 ⊢; omega) (sp_cell (g p)) p) (by decide) (ly_Model b) rfl rfl rfl rfl (Nat.le_of_ble_eq_true rfl) d_Model_translateWord_240 (fun v J240 hp240 => ?_)
            obtain ⟨rfl, hfJ240, NJ240⟩ := hp240
            have FJ240 : sp_fb b nb I J240 := FJ3.tr hfJ240
            show ly_V κ b sz J240 243 [(0, .ref (b + 130)), (1, .int (dz_i bg)), (2, .int (dz_i e)), (3, .int (dz_i (if a = true then 1 else 0))), (4, .int (dz_i p)), (5, .int (dz_i (-1))), (6, .int (dz_i (c : Int)))] []
            refine dz_iinc (z := p + 1) (ls' := [(0, .ref (b + 130)), (1, .int (dz_i bg)), (2, .int (dz_i e)), (3, .int (dz_i (if a = true then 1 else 0))), (4, .int (dz_i (p + 1))), (5, .int (dz_i (-1))), (6, .int (dz_i (c : Int)))]) x.1 4 d_Model_translateWord_243 rfl hN (by decide) (by omega) rfl ?_
            refine dz_goto (tgt := 300) x.1 d_Model_translateWord_246 (by decide) ?_
            refine dz_goto (tgt := 73) x.1 d_Model_translateWord_300 (by decide) ?_
            refine dz_take 5 (ls' := [(0, .ref (b + 130)), (1, .int (dz_i bg)), (2, .int (dz_i e)), (3, .int (dz_i (if a = true then 1 else 0))), (4, .int (dz_i (p + 1)))]) rfl ?_
            exact ih (p + 1) (f - 1) (O2 ++ (sp_step g c S bg e a p).1) J240 (by omega) (by omega) FJ240 (by rw [hst]; have h9 := NJ240; rw [hO3, List.append_assoc] at h9; exact h9) (by rw [← hS, hwl, List.append_assoc, hst])
          · have hst : (sp_step g c S bg e a p) = (sp_sgn g a p ++ sp_cl (S j) p (sp_cn (S j)).toNat, sp_ln (S j)) := by unfold sp_step; rw [hb]
            have hrj := (RI.2.2 j hj).2
            have hwj := hrj.2.2.1
            have hwl9 := hrj.2.1
            have loopc : ∀ (k3 : Nat) (q : Nat) (J : dz_Hp), ((q : Int) + (k3 : Int) = sp_cn (S j)) → (sp_fb b nb I J) → (sp_N b J nb (O3 ++ sp_cl (S j) p q)) → ly_V κ b sz J 252 [(0, .ref (b + 130)), (1, .int (dz_i bg)), (2, .int (dz_i e)), (3, .int (dz_i (if a = true then 1 else 0))), (4, .int (dz_i p)), (5, .int (dz_i (j : Int))), (6, .int (dz_i (q : Int)))] [] := by
              intro k3
              induction k3 with
              | zero =>
                intro q J hq FJ NJ
                refine dz_iload x.1 6 d_Model_translateWord_252 rfl ?_
                refine dz_aload_n x.1 0 d_Model_translateWord_254 rfl rfl ?_
                refine dz_getr x.1 (ly_Model b) fl_Model_23 (lr_Model_9 b) d_Model_translateWord_255 ?_
                refine dz_iload x.1 5 d_Model_translateWord_258 rfl ?_
                refine dz_iald (w := (sp_cn (S j))) x.1 (ly_MCellCount b) (by decide) (by omega) d_Model_translateWord_260 ((RI.fb FJ).2.2 j hj).1.2.2.1 ?_
                refine dz_icmp_ge (tgt := 288) x.1 d_Model_translateWord_261 (by decide) (by omega) (by omega) (fun hc261 => ?_) (fun hc261 => by exfalso; omega)
                refine dz_iload x.1 4 d_Model_translateWord_288 rfl ?_
                refine dz_aload_n x.1 0 d_Model_translateWord_290 rfl rfl ?_
                refine dz_getr x.1 (ly_Model b) fl_Model_17 (lr_Model_7 b) d_Model_translateWord_291 ?_
                refine dz_iload x.1 5 d_Model_translateWord_294 rfl ?_
                refine dz_iald (w := (sp_ln (S j))) x.1 (ly_MLetterCount b) (by decide) (by omega) d_Model_translateWord_296 ((RI.fb FJ).2.2 j hj).1.2.1 ?_
                refine dz_iadd (z := p + (sp_ln (S j))) x.1 d_Model_translateWord_297 (by omega) ?_
                refine dz_istore (ls' := [(0, .ref (b + 130)), (1, .int (dz_i bg)), (2, .int (dz_i e)), (3, .int (dz_i (if a = true then 1 else 0))), (4, .int (dz_i (p + (sp_ln (S j))))), (5, .int (dz_i (j : Int))), (6, .int (dz_i (q : Int)))]) x.1 d_Model_translateWord_298 hN (by decide) rfl ?_
                refine dz_goto (tgt := 73) x.1 d_Model_translateWord_300 (by decide) ?_
                refine dz_take 5 (ls' := [(0, .ref (b + 130)), (1, .int (dz_i bg)), (2, .int (dz_i e)), (3, .int (dz_i (if a = true then 1 else 0))), (4, .int (dz_i (p + (sp_ln (S j)))))]) rfl ?_
                have e9 : (sp_cn (S j)).toNat = q := by omega
                exact ih (p + sp_ln (S j)) (f - 1) (O2 ++ (sp_step g c S bg e a p).1) J (by rw [hst] at hstp; omega) (by omega) FJ (by rw [hst, e9]; have h9 := NJ; rw [hO3, List.append_assoc] at h9; exact h9) (by rw [← hS, hwl, List.append_assoc, hst])
              | succ k3 ihc =>
                intro q J hq FJ NJ
                refine dz_iload x.1 6 d_Model_translateWord_252 rfl ?_
                refine dz_aload_n x.1 0 d_Model_translateWord_254 rfl rfl ?_
                refine dz_getr x.1 (ly_Model b) fl_Model_23 (lr_Model_9 b) d_Model_translateWord_255 ?_
                refine dz_iload x.1 5 d_Model_translateWord_258 rfl ?_
                refine dz_iald (w := (sp_cn (S j))) x.1 (ly_MCellCount b) (by decide) (by omega) d_Model_translateWord_260 ((RI.fb FJ).2.2 j hj).1.2.2.1 ?_
                refine dz_icmp_ge (tgt := 288) x.1 d_Model_translateWord_261 (by decide) (by omega) (by omega) (fun hc261 => by exfalso; omega) (fun hc261 => ?_)
                refine dz_aload_n x.1 0 d_Model_translateWord_264 rfl rfl ?_
                refine dz_aload_n x.1 0 d_Model_translateWord_265 rfl rfl ?_
                refine dz_getr x.1 (ly_Model b) fl_Model_26 (lr_Model_10 b) d_Model_translateWord_266 ?_
                refine dz_iconst x.1 d_Model_translateWord_269 ?_
                refine dz_iload x.1 5 d_Model_translateWord_270 rfl ?_
                refine dz_imul (z := 3 * (j : Int)) x.1 d_Model_translateWord_272 (by omega) ?_
                refine dz_iload x.1 6 d_Model_translateWord_273 rfl ?_
                refine dz_iadd (z := 3 * (j : Int) + (q : Int)) x.1 d_Model_translateWord_275 (by omega) ?_
                refine dz_iald (w := (sp_ce (S j) (q : Int))) x.1 (ly_MRuleCells b) (by decide) (by omega) d_Model_translateWord_276 (((RI.fb FJ).2.2 j hj).1.2.2.2.2 q (by omega) (by omega)) ?_
                refine dz_iload x.1 4 d_Model_translateWord_277 rfl ?_
                refine ly_callV (rest := []) x cl_Model_111 (c_Model_add l D Dt b sz J nb (O3 ++ sp_cl (S j) p q) NJ (by rw [hO3]; rw [hst] at hT2; simp only [List.length_append, List.length_cons, List.length_nil, sp_cl_len] at hT2 ⊢; omega) (sp_ce (S j) (q : Int)) p) (by decide) (ly_Model b) rfl rfl rfl rfl (Nat.le_of_ble_eq_true rfl) d_Model_translateWord_279 (fun v J279 hp279 => ?_)
                obtain ⟨rfl, hfJ279, NJ279⟩ := hp279
                have FJ279 : sp_fb b nb I J279 := FJ.tr hfJ279
                show ly_V κ b sz J279 282 [(0, .ref (b + 130)), (1, .int (dz_i bg)), (2, .int (dz_i e)), (3, .int (dz_i (if a = true then 1 else 0))), (4, .int (dz_i p)), (5, .int (dz_i (j : Int))), (6, .int (dz_i (q : Int)))] []
                refine dz_iinc (z := (q : Int) + 1) (ls' := [(0, .ref (b + 130)), (1, .int (dz_i bg)), (2, .int (dz_i e)), (3, .int (dz_i (if a = true then 1 else 0))), (4, .int (dz_i p)), (5, .int (dz_i (j : Int))), (6, .int (dz_i ((q : Int) + 1)))]) x.1 6 d_Model_translateWord_282 rfl hN (by decide) (by omega) rfl ?_
                refine dz_goto (tgt := 252) x.1 d_Model_translateWord_285 (by decide) ?_
                have h9 := ihc (q + 1) J279 (by omega) FJ279 (by have h9 := NJ279; rw [List.append_assoc] at h9; exact h9)
                rw [show ((q + 1 : Nat) : Int) = (q : Int) + 1 by omega] at h9
                exact h9
            refine dz_iload x.1 5 d_Model_translateWord_217 rfl ?_
            refine dz_if_ge (tgt := 249) x.1 d_Model_translateWord_219 (by decide) (by omega) (fun hc219 => ?_) (fun hc219 => by exfalso; omega)
            refine dz_iconst x.1 d_Model_translateWord_249 ?_
            refine dz_istore (ls' := [(0, .ref (b + 130)), (1, .int (dz_i bg)), (2, .int (dz_i e)), (3, .int (dz_i (if a = true then 1 else 0))), (4, .int (dz_i p)), (5, .int (dz_i (j : Int))), (6, .int (dz_i 0))]) x.1 d_Model_translateWord_250 hN (by decide) rfl ?_
            exact loopc (sp_cn (S j)).toNat 0 J3 (by omega) FJ3 (by simpa [sp_cl] using NJ3)
        have k105 : ∀ (J3 : dz_Hp) (O3 : List (Int × Int)), (sp_fb b nb I J3) → (sp_N b J3 nb O3) → (O3 = O2 ++ sp_sgn g a p) → ly_V κ b sz J3 105 [(0, .ref (b + 130)), (1, .int (dz_i bg)), (2, .int (dz_i e)), (3, .int (dz_i (if a = true then 1 else 0))), (4, .int (dz_i p))] [] := by
          intro J3 O3 FJ3 NJ3 hO3
          have loopb : ∀ (k2 : Nat) (r : Nat) (bv : Int), (r + k2 = c) → ((bv = -1 ∧ sp_best (sp_mt g S bg e a p) (sp_btr S) r = none) ∨ (∃ j : Nat, j < c ∧ bv = (j : Int) ∧ sp_best (sp_mt g S bg e a p) (sp_btr S) r = some j)) → ly_V κ b sz J3 111 [(0, .ref (b + 130)), (1, .int (dz_i bg)), (2, .int (dz_i e)), (3, .int (dz_i (if a = true then 1 else 0))), (4, .int (dz_i p)), (5, .int (dz_i bv)), (6, .int (dz_i (r : Int)))] [] := by
            intro k2
            induction k2 with
            | zero =>
              intro r bv hr hv
              refine dz_iload x.1 6 d_Model_translateWord_111 rfl ?_
              refine dz_aload_n x.1 0 d_Model_translateWord_113 rfl rfl ?_
              refine dz_geti (z := (c : Int)) x.1 (ly_Model b) fl_Model_83 d_Model_translateWord_114 (RI.fb FJ3).1 ?_
              refine dz_icmp_ge (tgt := 217) x.1 d_Model_translateWord_117 (by decide) (by omega) (by omega) (fun hc117 => ?_) (fun hc117 => by exfalso; omega)
              have er : r = c := by omega
              subst er
              exact k217 J3 O3 bv FJ3 NJ3 hO3 hv
            | succ k2 ihb =>
              intro r bv hr hv
              have hr1 := (RI.fb FJ3).2.2 r (by omega)
              have hr2 := hr1.2.1
              have hr3 := hr1.2.2.1
              rcases hv with ⟨rfl, hb⟩ | ⟨j, hj, rfl, hb⟩
              · have hbb := hb
                refine dz_iload x.1 6 d_Model_translateWord_111 rfl ?_
                refine dz_aload_n x.1 0 d_Model_translateWord_113 rfl rfl ?_
                refine dz_geti (z := (c : Int)) x.1 (ly_Model b) fl_Model_83 d_Model_translateWord_114 (RI.fb FJ3).1 ?_
                refine dz_icmp_ge (tgt := 217) x.1 d_Model_translateWord_117 (by decide) (by omega) (by omega) (fun hc117 => by exfalso; omega) (fun hc117 => ?_)
                refine dz_iload x.1 5 d_Model_translateWord_120 rfl ?_
                refine dz_if_lt (tgt := 176) x.1 d_Model_translateWord_122 (by decide) (by omega) (fun hc122 => ?_) (fun hc122 => by exfalso; omega)
                refine dz_iconst x.1 d_Model_translateWord_176 ?_
                refine dz_goto (tgt := 181) x.1 d_Model_translateWord_177 (by decide) ?_
                refine dz_istore (ls' := [(0, .ref (b + 130)), (1, .int (dz_i bg)), (2, .int (dz_i e)), (3, .int (dz_i (if a = true then 1 else 0))), (4, .int (dz_i p)), (5, .int (dz_i (-1))), (6, .int (dz_i (r : Int))), (7, .int (dz_i 1))]) x.1 d_Model_translateWord_181 hN (by decide) rfl ?_
                refine dz_iload x.1 7 d_Model_translateWord_183 rfl ?_
                refine dz_if_eq (tgt := 207) x.1 d_Model_translateWord_185 (by decide) (by omega) (fun hc185 => by exfalso; omega) (fun hc185 => ?_)
                refine dz_aload_n x.1 0 d_Model_translateWord_188 rfl rfl ?_
                refine dz_iload x.1 6 d_Model_translateWord_189 rfl ?_
                refine dz_iload x.1 4 d_Model_translateWord_191 rfl ?_
                refine dz_iload_n x.1 1 d_Model_translateWord_193 rfl rfl ?_
                refine dz_iload_n x.1 2 d_Model_translateWord_194 rfl rfl ?_
                refine dz_iload_n x.1 3 d_Model_translateWord_195 rfl rfl ?_
                refine ly_callV (rest := []) x cl_Model_115 (c_Model_stands l D Dt b sz J3 n g (TI.fb FJ3) c S (RI.fb FJ3) r (by omega) p bg e a he (by omega)) (by decide) (ly_Model b) rfl rfl rfl rfl (Nat.le_of_ble_eq_true rfl) d_Model_translateWord_196 (fun v I' hp196 => ?_)
                obtain ⟨rfl, hp196I⟩ := hp196
                have hp196I := hp196I.symm
                subst hp196I
                show ly_V κ b sz J3 199 [(0, .ref (b + 130)), (1, .int (dz_i bg)), (2, .int (dz_i e)), (3, .int (dz_i (if a = true then 1 else 0))), (4, .int (dz_i p)), (5, .int (dz_i (-1))), (6, .int (dz_i (r : Int))), (7, .int (dz_i 1))] [.int (dz_i (if sp_mt g S bg e a p r = true then 1 else 0))]
                refine dz_if_eq (tgt := 207) x.1 d_Model_translateWord_199 (by decide) (dz_br _) (fun hc199 => ?_) (fun hc199 => ?_)
                · have hc199 : ¬ (sp_mt g S bg e a p r = true) := dz_bf hc199
                  refine dz_iload x.1 5 d_Model_translateWord_207 rfl ?_
                  refine dz_istore (ls' := [(0, .ref (b + 130)), (1, .int (dz_i bg)), (2, .int (dz_i e)), (3, .int (dz_i (if a = true then 1 else 0))), (4, .int (dz_i p)), (5, .int (dz_i (-1))), (6, .int (dz_i (r : Int))), (7, .int (dz_i 1))]) x.1 d_Model_translateWord_209 hN (by decide) rfl ?_
                  refine dz_iinc (z := (r : Int) + 1) (ls' := [(0, .ref (b + 130)), (1, .int (dz_i bg)), (2, .int (dz_i e)), (3, .int (dz_i (if a = true then 1 else 0))), (4, .int (dz_i p)), (5, .int (dz_i (-1))), (6, .int (dz_i ((r : Int) + 1))), (7, .int (dz_i 1))]) x.1 6 d_Model_translateWord_211 rfl hN (by decide) (by omega) rfl ?_
                  refine dz_goto (tgt := 111) x.1 d_Model_translateWord_214 (by decide) ?_
                  refine dz_take 7 (ls' := [(0, .ref (b + 130)), (1, .int (dz_i bg)), (2, .int (dz_i e)), (3, .int (dz_i (if a = true then 1 else 0))), (4, .int (dz_i p)), (5, .int (dz_i (-1))), (6, .int (dz_i ((r : Int) + 1)))]) rfl ?_
                  have h9 := ihb (r + 1) _ (by omega) (Or.inl ⟨rfl, (sp_best_n hc199).trans hb⟩)
                  rw [show ((r + 1 : Nat) : Int) = (r : Int) + 1 by omega] at h9
                  exact h9
                · have hc199 : sp_mt g S bg e a p r = true := dz_bt hc199
                  refine dz_iload x.1 6 d_Model_translateWord_202 rfl ?_
                  refine dz_goto (tgt := 209) x.1 d_Model_translateWord_204 (by decide) ?_
                  refine dz_istore (ls' := [(0, .ref (b + 130)), (1, .int (dz_i bg)), (2, .int (dz_i e)), (3, .int (dz_i (if a = true then 1 else 0))), (4, .int (dz_i p)), (5, .int (dz_i (r : Int))), (6, .int (dz_i (r : Int))), (7, .int (dz_i 1))]) x.1 d_Model_translateWord_209 hN (by decide) rfl ?_
                  refine dz_iinc (z := (r : Int) + 1) (ls' := [(0, .ref (b + 130)), (1, .int (dz_i bg)), (2, .int (dz_i e)), (3, .int (dz_i (if a = true then 1 else 0))), (4, .int (dz_i p)), (5, .int (dz_i (r : Int))), (6, .int (dz_i ((r : Int) + 1))), (7, .int (dz_i 1))]) x.1 6 d_Model_translateWord_211 rfl hN (by decide) (by omega) rfl ?_
                  refine dz_goto (tgt := 111) x.1 d_Model_translateWord_214 (by decide) ?_
                  refine dz_take 7 (ls' := [(0, .ref (b + 130)), (1, .int (dz_i bg)), (2, .int (dz_i e)), (3, .int (dz_i (if a = true then 1 else 0))), (4, .int (dz_i p)), (5, .int (dz_i (r : Int))), (6, .int (dz_i ((r : Int) + 1)))]) rfl ?_
                  have h9 := ihb (r + 1) _ (by omega) (Or.inr ⟨r, by omega, rfl, sp_best_0 hb hc199⟩)
                  rw [show ((r + 1 : Nat) : Int) = (r : Int) + 1 by omega] at h9
                  exact h9
              · have hj1 := (RI.fb FJ3).2.2 j hj
                have hj2 := hj1.2.1
                have hj3 := hj1.2.2.1
                refine dz_iload x.1 6 d_Model_translateWord_111 rfl ?_
                refine dz_aload_n x.1 0 d_Model_translateWord_113 rfl rfl ?_
                refine dz_geti (z := (c : Int)) x.1 (ly_Model b) fl_Model_83 d_Model_translateWord_114 (RI.fb FJ3).1 ?_
                refine dz_icmp_ge (tgt := 217) x.1 d_Model_translateWord_117 (by decide) (by omega) (by omega) (fun hc117 => by exfalso; omega) (fun hc117 => ?_)
                refine dz_iload x.1 5 d_Model_translateWord_120 rfl ?_
                refine dz_if_lt (tgt := 176) x.1 d_Model_translateWord_122 (by decide) (by omega) (fun hc122 => by exfalso; omega) (fun hc122 => ?_)
                refine dz_aload_n x.1 0 d_Model_translateWord_125 rfl rfl ?_
                refine dz_getr x.1 (ly_Model b) fl_Model_17 (lr_Model_7 b) d_Model_translateWord_126 ?_
                refine dz_iload x.1 6 d_Model_translateWord_129 rfl ?_
                refine dz_iald (w := (sp_ln (S r))) x.1 (ly_MLetterCount b) (by decide) (by omega) d_Model_translateWord_131 hr1.1.2.1 ?_
                refine dz_aload_n x.1 0 d_Model_translateWord_132 rfl rfl ?_
                refine dz_getr x.1 (ly_Model b) fl_Model_17 (lr_Model_7 b) d_Model_translateWord_133 ?_
                refine dz_iload x.1 5 d_Model_translateWord_136 rfl ?_
                refine dz_iald (w := (sp_ln (S j))) x.1 (ly_MLetterCount b) (by decide) (by omega) d_Model_translateWord_138 hj1.1.2.1 ?_
                refine dz_icmp_gt (tgt := 176) x.1 d_Model_translateWord_139 (by decide) (by omega) (by omega) (fun hc139 => ?_) (fun hc139 => ?_)
                · refine dz_iconst x.1 d_Model_translateWord_176 ?_
                  refine dz_goto (tgt := 181) x.1 d_Model_translateWord_177 (by decide) ?_
                  refine dz_istore (ls' := [(0, .ref (b + 130)), (1, .int (dz_i bg)), (2, .int (dz_i e)), (3, .int (dz_i (if a = true then 1 else 0))), (4, .int (dz_i p)), (5, .int (dz_i (j : Int))), (6, .int (dz_i (r : Int))), (7, .int (dz_i 1))]) x.1 d_Model_translateWord_181 hN (by decide) rfl ?_
                  refine dz_iload x.1 7 d_Model_translateWord_183 rfl ?_
                  refine dz_if_eq (tgt := 207) x.1 d_Model_translateWord_185 (by decide) (by omega) (fun hc185 => by exfalso; omega) (fun hc185 => ?_)
                  refine dz_aload_n x.1 0 d_Model_translateWord_188 rfl rfl ?_
                  refine dz_iload x.1 6 d_Model_translateWord_189 rfl ?_
                  refine dz_iload x.1 4 d_Model_translateWord_191 rfl ?_
                  refine dz_iload_n x.1 1 d_Model_translateWord_193 rfl rfl ?_
                  refine dz_iload_n x.1 2 d_Model_translateWord_194 rfl rfl ?_
                  refine dz_iload_n x.1 3 d_Model_translateWord_195 rfl rfl ?_
                  refine ly_callV (rest := []) x cl_Model_115 (c_Model_stands l D Dt b sz J3 n g (TI.fb FJ3) c S (RI.fb FJ3) r (by omega) p bg e a he (by omega)) (by decide) (ly_Model b) rfl rfl rfl rfl (Nat.le_of_ble_eq_true rfl) d_Model_translateWord_196 (fun v I' hp196 => ?_)
                  obtain ⟨rfl, hp196I⟩ := hp196
                  have hp196I := hp196I.symm
                  subst hp196I
                  show ly_V κ b sz J3 199 [(0, .ref (b + 130)), (1, .int (dz_i bg)), (2, .int (dz_i e)), (3, .int (dz_i (if a = true then 1 else 0))), (4, .int (dz_i p)), (5, .int (dz_i (j : Int))), (6, .int (dz_i (r : Int))), (7, .int (dz_i 1))] [.int (dz_i (if sp_mt g S bg e a p r = true then 1 else 0))]
                  refine dz_if_eq (tgt := 207) x.1 d_Model_translateWord_199 (by decide) (dz_br _) (fun hc199 => ?_) (fun hc199 => ?_)
                  · have hc199 : ¬ (sp_mt g S bg e a p r = true) := dz_bf hc199
                    refine dz_iload x.1 5 d_Model_translateWord_207 rfl ?_
                    refine dz_istore (ls' := [(0, .ref (b + 130)), (1, .int (dz_i bg)), (2, .int (dz_i e)), (3, .int (dz_i (if a = true then 1 else 0))), (4, .int (dz_i p)), (5, .int (dz_i (j : Int))), (6, .int (dz_i (r : Int))), (7, .int (dz_i 1))]) x.1 d_Model_translateWord_209 hN (by decide) rfl ?_
                    refine dz_iinc (z := (r : Int) + 1) (ls' := [(0, .ref (b + 130)), (1, .int (dz_i bg)), (2, .int (dz_i e)), (3, .int (dz_i (if a = true then 1 else 0))), (4, .int (dz_i p)), (5, .int (dz_i (j : Int))), (6, .int (dz_i ((r : Int) + 1))), (7, .int (dz_i 1))]) x.1 6 d_Model_translateWord_211 rfl hN (by decide) (by omega) rfl ?_
                    refine dz_goto (tgt := 111) x.1 d_Model_translateWord_214 (by decide) ?_
                    refine dz_take 7 (ls' := [(0, .ref (b + 130)), (1, .int (dz_i bg)), (2, .int (dz_i e)), (3, .int (dz_i (if a = true then 1 else 0))), (4, .int (dz_i p)), (5, .int (dz_i (j : Int))), (6, .int (dz_i ((r : Int) + 1)))]) rfl ?_
                    have h9 := ihb (r + 1) _ (by omega) (Or.inr ⟨j, hj, rfl, by first | exact (sp_best_n hc199).trans hb | exact sp_best_f hb (fun z => by have z9 := of_decide_eq_true z; omega)⟩)
                    rw [show ((r + 1 : Nat) : Int) = (r : Int) + 1 by omega] at h9
                    exact h9
                  · have hc199 : sp_mt g S bg e a p r = true := dz_bt hc199
                    refine dz_iload x.1 6 d_Model_translateWord_202 rfl ?_
                    refine dz_goto (tgt := 209) x.1 d_Model_translateWord_204 (by decide) ?_
                    refine dz_istore (ls' := [(0, .ref (b + 130)), (1, .int (dz_i bg)), (2, .int (dz_i e)), (3, .int (dz_i (if a = true then 1 else 0))), (4, .int (dz_i p)), (5, .int (dz_i (r : Int))), (6, .int (dz_i (r : Int))), (7, .int (dz_i 1))]) x.1 d_Model_translateWord_209 hN (by decide) rfl ?_
                    refine dz_iinc (z := (r : Int) + 1) (ls' := [(0, .ref (b + 130)), (1, .int (dz_i bg)), (2, .int (dz_i e)), (3, .int (dz_i (if a = true then 1 else 0))), (4, .int (dz_i p)), (5, .int (dz_i (r : Int))), (6, .int (dz_i ((r : Int) + 1))), (7, .int (dz_i 1))]) x.1 6 d_Model_translateWord_211 rfl hN (by decide) (by omega) rfl ?_
                    refine dz_goto (tgt := 111) x.1 d_Model_translateWord_214 (by decide) ?_
                    refine dz_take 7 (ls' := [(0, .ref (b + 130)), (1, .int (dz_i bg)), (2, .int (dz_i e)), (3, .int (dz_i (if a = true then 1 else 0))), (4, .int (dz_i p)), (5, .int (dz_i (r : Int))), (6, .int (dz_i ((r : Int) + 1)))]) rfl ?_
                    have h9 := ihb (r + 1) _ (by omega) (Or.inr ⟨r, by omega, rfl, sp_best_t hb hc199 (decide_eq_true (by omega))⟩)
                    rw [show ((r + 1 : Nat) : Int) = (r : Int) + 1 by omega] at h9
                    exact h9
                · refine dz_aload_n x.1 0 d_Model_translateWord_142 rfl rfl ?_
                  refine dz_getr x.1 (ly_Model b) fl_Model_17 (lr_Model_7 b) d_Model_translateWord_143 ?_
                  refine dz_iload x.1 6 d_Model_translateWord_146 rfl ?_
                  refine dz_iald (w := (sp_ln (S r))) x.1 (ly_MLetterCount b) (by decide) (by omega) d_Model_translateWord_148 hr1.1.2.1 ?_
                  refine dz_aload_n x.1 0 d_Model_translateWord_149 rfl rfl ?_
                  refine dz_getr x.1 (ly_Model b) fl_Model_17 (lr_Model_7 b) d_Model_translateWord_150 ?_
                  refine dz_iload x.1 5 d_Model_translateWord_153 rfl ?_
                  refine dz_iald (w := (sp_ln (S j))) x.1 (ly_MLetterCount b) (by decide) (by omega) d_Model_translateWord_155 hj1.1.2.1 ?_
                  refine dz_icmp_ne (tgt := 180) x.1 d_Model_translateWord_156 (by decide) (by omega) (by omega) (fun hc156 => ?_) (fun hc156 => ?_)
                  · refine dz_iconst x.1 d_Model_translateWord_180 ?_
                    refine dz_istore (ls' := [(0, .ref (b + 130)), (1, .int (dz_i bg)), (2, .int (dz_i e)), (3, .int (dz_i (if a = true then 1 else 0))), (4, .int (dz_i p)), (5, .int (dz_i (j : Int))), (6, .int (dz_i (r : Int))), (7, .int (dz_i 0))]) x.1 d_Model_translateWord_181 hN (by decide) rfl ?_
                    refine dz_iload x.1 7 d_Model_translateWord_183 rfl ?_
                    refine dz_if_eq (tgt := 207) x.1 d_Model_translateWord_185 (by decide) (by omega) (fun hc185 => ?_) (fun hc185 => by exfalso; omega)
                    refine dz_iload x.1 5 d_Model_translateWord_207 rfl ?_
                    refine dz_istore (ls' := [(0, .ref (b + 130)), (1, .int (dz_i bg)), (2, .int (dz_i e)), (3, .int (dz_i (if a = true then 1 else 0))), (4, .int (dz_i p)), (5, .int (dz_i (j : Int))), (6, .int (dz_i (r : Int))), (7, .int (dz_i 0))]) x.1 d_Model_translateWord_209 hN (by decide) rfl ?_
                    refine dz_iinc (z := (r : Int) + 1) (ls' := [(0, .ref (b + 130)), (1, .int (dz_i bg)), (2, .int (dz_i e)), (3, .int (dz_i (if a = true then 1 else 0))), (4, .int (dz_i p)), (5, .int (dz_i (j : Int))), (6, .int (dz_i ((r : Int) + 1))), (7, .int (dz_i 0))]) x.1 6 d_Model_translateWord_211 rfl hN (by decide) (by omega) rfl ?_
                    refine dz_goto (tgt := 111) x.1 d_Model_translateWord_214 (by decide) ?_
                    refine dz_take 7 (ls' := [(0, .ref (b + 130)), (1, .int (dz_i bg)), (2, .int (dz_i e)), (3, .int (dz_i (if a = true then 1 else 0))), (4, .int (dz_i p)), (5, .int (dz_i (j : Int))), (6, .int (dz_i ((r : Int) + 1)))]) rfl ?_
                    have h9 := ihb (r + 1) _ (by omega) (Or.inr ⟨j, hj, rfl, by first | exact (sp_best_n hc199).trans hb | exact sp_best_f hb (fun z => by have z9 := of_decide_eq_true z; omega)⟩)
                    rw [show ((r + 1 : Nat) : Int) = (r : Int) + 1 by omega] at h9
                    exact h9
                  · refine dz_aload_n x.1 0 d_Model_translateWord_159 rfl rfl ?_
                    refine dz_getr x.1 (ly_Model b) fl_Model_13 (lr_Model_6 b) d_Model_translateWord_160 ?_
                    refine dz_iload x.1 6 d_Model_translateWord_163 rfl ?_
                    refine dz_iald (w := (sp_k (S r))) x.1 (ly_MKinds b) (by decide) (by omega) d_Model_translateWord_165 hr1.1.1 ?_
                    refine dz_aload_n x.1 0 d_Model_translateWord_166 rfl rfl ?_
                    refine dz_getr x.1 (ly_Model b) fl_Model_13 (lr_Model_6 b) d_Model_translateWord_167 ?_
                    refine dz_iload x.1 5 d_Model_translateWord_170 rfl ?_
                    refine dz_iald (w := (sp_k (S j))) x.1 (ly_MKinds b) (by decide) (by omega) d_Model_translateWord_172 hj1.1.1 ?_
                    refine dz_icmp_ge (tgt := 180) x.1 d_Model_translateWord_173 (by decide) (by omega) (by omega) (fun hc173 => ?_) (fun hc173 => ?_)
                    · refine dz_iconst x.1 d_Model_translateWord_180 ?_
                      refine dz_istore (ls' := [(0, .ref (b + 130)), (1, .int (dz_i bg)), (2, .int (dz_i e)), (3, .int (dz_i (if a = true then 1 else 0))), (4, .int (dz_i p)), (5, .int (dz_i (j : Int))), (6, .int (dz_i (r : Int))), (7, .int (dz_i 0))]) x.1 d_Model_translateWord_181 hN (by decide) rfl ?_
                      refine dz_iload x.1 7 d_Model_translateWord_183 rfl ?_
                      refine dz_if_eq (tgt := 207) x.1 d_Model_translateWord_185 (by decide) (by omega) (fun hc185 => ?_) (fun hc185 => by exfalso; omega)
                      refine dz_iload x.1 5 d_Model_translateWord_207 rfl ?_
                      refine dz_istore (ls' := [(0, .ref (b + 130)), (1, .int (dz_i bg)), (2, .int (dz_i e)), (3, .int (dz_i (if a = true then 1 else 0))), (4, .int (dz_i p)), (5, .int (dz_i (j : Int))), (6, .int (dz_i (r : Int))), (7, .int (dz_i 0))]) x.1 d_Model_translateWord_209 hN (by decide) rfl ?_
                      refine dz_iinc (z := (r : Int) + 1) (ls' := [(0, .ref (b + 130)), (1, .int (dz_i bg)), (2, .int (dz_i e)), (3, .int (dz_i (if a = true then 1 else 0))), (4, .int (dz_i p)), (5, .int (dz_i (j : Int))), (6, .int (dz_i ((r : Int) + 1))), (7, .int (dz_i 0))]) x.1 6 d_Model_translateWord_211 rfl hN (by decide) (by omega) rfl ?_
                      refine dz_goto (tgt := 111) x.1 d_Model_translateWord_214 (by decide) ?_
                      refine dz_take 7 (ls' := [(0, .ref (b + 130)), (1, .int (dz_i bg)), (2, .int (dz_i e)), (3, .int (dz_i (if a = true then 1 else 0))), (4, .int (dz_i p)), (5, .int (dz_i (j : Int))), (6, .int (dz_i ((r : Int) + 1)))]) rfl ?_
                      have h9 := ihb (r + 1) _ (by omega) (Or.inr ⟨j, hj, rfl, by first | exact (sp_best_n hc199).trans hb | exact sp_best_f hb (fun z => by have z9 := of_decide_eq_true z; omega)⟩)
                      rw [show ((r + 1 : Nat) : Int) = (r : Int) + 1 by omega] at h9
                      exact h9
                    · refine dz_iconst x.1 d_Model_translateWord_176 ?_
                      refine dz_goto (tgt := 181) x.1 d_Model_translateWord_177 (by decide) ?_
                      refine dz_istore (ls' := [(0, .ref (b + 130)), (1, .int (dz_i bg)), (2, .int (dz_i e)), (3, .int (dz_i (if a = true then 1 else 0))), (4, .int (dz_i p)), (5, .int (dz_i (j : Int))), (6, .int (dz_i (r : Int))), (7, .int (dz_i 1))]) x.1 d_Model_translateWord_181 hN (by decide) rfl ?_
                      refine dz_iload x.1 7 d_Model_translateWord_183 rfl ?_
                      refine dz_if_eq (tgt := 207) x.1 d_Model_translateWord_185 (by decide) (by omega) (fun hc185 => by exfalso; omega) (fun hc185 => ?_)
                      refine dz_aload_n x.1 0 d_Model_translateWord_188 rfl rfl ?_
                      refine dz_iload x.1 6 d_Model_translateWord_189 rfl ?_
                      refine dz_iload x.1 4 d_Model_translateWord_191 rfl ?_
                      refine dz_iload_n x.1 1 d_Model_translateWord_193 rfl rfl ?_
                      refine dz_iload_n x.1 2 d_Model_translateWord_194 rfl rfl ?_
                      refine dz_iload_n x.1 3 d_Model_translateWord_195 rfl rfl ?_
                      refine ly_callV (rest := []) x cl_Model_115 (c_Model_stands l D Dt b sz J3 n g (TI.fb FJ3) c S (RI.fb FJ3) r (by omega) p bg e a he (by omega)) (by decide) (ly_Model b) rfl rfl rfl rfl (Nat.le_of_ble_eq_true rfl) d_Model_translateWord_196 (fun v I' hp196 => ?_)
                      obtain ⟨rfl, hp196I⟩ := hp196
                      have hp196I := hp196I.symm
                      subst hp196I
                      show ly_V κ b sz J3 199 [(0, .ref (b + 130)), (1, .int (dz_i bg)), (2, .int (dz_i e)), (3, .int (dz_i (if a = true then 1 else 0))), (4, .int (dz_i p)), (5, .int (dz_i (j : Int))), (6, .int (dz_i (r : Int))), (7, .int (dz_i 1))] [.int (dz_i (if sp_mt g S bg e a p r = true then 1 else 0))]
                      refine dz_if_eq (tgt := 207) x.1 d_Model_translateWord_199 (by decide) (dz_br _) (fun hc199 => ?_) (fun hc199 => ?_)
                      · have hc199 : ¬ (sp_mt g S bg e a p r = true) := dz_bf hc199
                        refine dz_iload x.1 5 d_Model_translateWord_207 rfl ?_
                        refine dz_istore (ls' := [(0, .ref (b + 130)), (1, .int (dz_i bg)), (2, .int (dz_i e)), (3, .int (dz_i (if a = true then 1 else 0))), (4, .int (dz_i p)), (5, .int (dz_i (j : Int))), (6, .int (dz_i (r : Int))), (7, .int (dz_i 1))]) x.1 d_Model_translateWord_209 hN (by decide) rfl ?_
                        refine dz_iinc (z := (r : Int) + 1) (ls' := [(0, .ref (b + 130)), (1, .int (dz_i bg)), (2, .int (dz_i e)), (3, .int (dz_i (if a = true then 1 else 0))), (4, .int (dz_i p)), (5, .int (dz_i (j : Int))), (6, .int (dz_i ((r : Int) + 1))), (7, .int (dz_i 1))]) x.1 6 d_Model_translateWord_211 rfl hN (by decide) (by omega) rfl ?_
                        refine dz_goto (tgt := 111) x.1 d_Model_translateWord_214 (by decide) ?_
                        refine dz_take 7 (ls' := [(0, .ref (b + 130)), (1, .int (dz_i bg)), (2, .int (dz_i e)), (3, .int (dz_i (if a = true then 1 else 0))), (4, .int (dz_i p)), (5, .int (dz_i (j : Int))), (6, .int (dz_i ((r : Int) + 1)))]) rfl ?_
                        have h9 := ihb (r + 1) _ (by omega) (Or.inr ⟨j, hj, rfl, by first | exact (sp_best_n hc199).trans hb | exact sp_best_f hb (fun z => by have z9 := of_decide_eq_true z; omega)⟩)
                        rw [show ((r + 1 : Nat) : Int) = (r : Int) + 1 by omega] at h9
                        exact h9
                      · have hc199 : sp_mt g S bg e a p r = true := dz_bt hc199
                        refine dz_iload x.1 6 d_Model_translateWord_202 rfl ?_
                        refine dz_goto (tgt := 209) x.1 d_Model_translateWord_204 (by decide) ?_
                        refine dz_istore (ls' := [(0, .ref (b + 130)), (1, .int (dz_i bg)), (2, .int (dz_i e)), (3, .int (dz_i (if a = true then 1 else 0))), (4, .int (dz_i p)), (5, .int (dz_i (r : Int))), (6, .int (dz_i (r : Int))), (7, .int (dz_i 1))]) x.1 d_Model_translateWord_209 hN (by decide) rfl ?_
                        refine dz_iinc (z := (r : Int) + 1) (ls' := [(0, .ref (b + 130)), (1, .int (dz_i bg)), (2, .int (dz_i e)), (3, .int (dz_i (if a = true then 1 else 0))), (4, .int (dz_i p)), (5, .int (dz_i (r : Int))), (6, .int (dz_i ((r : Int) + 1))), (7, .int (dz_i 1))]) x.1 6 d_Model_translateWord_211 rfl hN (by decide) (by omega) rfl ?_
                        refine dz_goto (tgt := 111) x.1 d_Model_translateWord_214 (by decide) ?_
                        refine dz_take 7 (ls' := [(0, .ref (b + 130)), (1, .int (dz_i bg)), (2, .int (dz_i e)), (3, .int (dz_i (if a = true then 1 else 0))), (4, .int (dz_i p)), (5, .int (dz_i (r : Int))), (6, .int (dz_i ((r : Int) + 1)))]) rfl ?_
                        have h9 := ihb (r + 1) _ (by omega) (Or.inr ⟨r, by omega, rfl, sp_best_t hb hc199 (decide_eq_true (by omega))⟩)
                        rw [show ((r + 1 : Nat) : Int) = (r : Int) + 1 by omega] at h9
                        exact h9
          refine dz_iconst x.1 d_Model_translateWord_105 ?_
          refine dz_istore (ls' := [(0, .ref (b + 130)), (1, .int (dz_i bg)), (2, .int (dz_i e)), (3, .int (dz_i (if a = true then 1 else 0))), (4, .int (dz_i p)), (5, .int (dz_i (-1)))]) x.1 d_Model_translateWord_106 hN (by decide) rfl ?_
          refine dz_iconst x.1 d_Model_translateWord_108 ?_
          refine dz_istore (ls' := [(0, .ref (b + 130)), (1, .int (dz_i bg)), (2, .int (dz_i e)), (3, .int (dz_i (if a = true then 1 else 0))), (4, .int (dz_i p)), (5, .int (dz_i (-1))), (6, .int (dz_i 0))]) x.1 d_Model_translateWord_109 hN (by decide) rfl ?_
          exact loopb c 0 (-1) (by omega) (Or.inl ⟨rfl, rfl⟩)
        refine dz_iload x.1 4 d_Model_translateWord_73 rfl ?_
        refine dz_iload_n x.1 2 d_Model_translateWord_75 rfl rfl ?_
        refine dz_icmp_ge (tgt := 303) x.1 d_Model_translateWord_76 (by decide) (by omega) (by omega) (fun hc76 => by exfalso; omega) (fun hc76 => ?_)
        refine dz_iload_n x.1 3 d_Model_translateWord_79 rfl rfl ?_
        refine dz_if_ne (tgt := 105) x.1 d_Model_translateWord_80 (by decide) (dz_br _) (fun hc80 => ?_) (fun hc80 => ?_)
        · have hc80 : a = true := dz_bt hc80
          exact k105 J O2 FJ NJ (by unfold sp_sgn; rw [if_neg (by intro h; first | exact h.1 hc80 | exact hc94 h.2), List.append_nil])
        · have hc80 : ¬ (a = true) := dz_bf hc80
          refine dz_aload_n x.1 0 d_Model_translateWord_83 rfl rfl ?_
          refine dz_aload_n x.1 0 d_Model_translateWord_84 rfl rfl ?_
          refine dz_getr x.1 (ly_Model b) fl_Model_7 (lr_Model_4 b) d_Model_translateWord_85 ?_
          refine dz_iload x.1 4 d_Model_translateWord_88 rfl ?_
          refine dz_cald (w := (g p)) x.1 (ly_MTyped b) (by decide) (by omega) d_Model_translateWord_90 ((TI.fb FJ).2.2 p (by omega) (by omega)) ?_
          refine ly_callV (rest := []) x cl_Model_70 (c_Model_isCapital l D Dt b sz J (g p) (by omega)) (by decide) (ly_Model b) rfl rfl rfl rfl (Nat.le_of_ble_eq_true rfl) d_Model_translateWord_91 (fun v I' hp91 => ?_)
          obtain ⟨rfl, hp91I⟩ := hp91
          have hp91I := hp91I.symm
          subst hp91I
          show ly_V κ b sz J 94 [(0, .ref (b + 130)), (1, .int (dz_i bg)), (2, .int (dz_i e)), (3, .int (dz_i (if a = true then 1 else 0))), (4, .int (dz_i p))] [.int (dz_i (if 65 ≤ (g p) ∧ (g p) ≤ 90 then 1 else 0))]
          refine dz_if_eq (tgt := 105) x.1 d_Model_translateWord_94 (by decide) (dz_br _) (fun hc94 => ?_) (fun hc94 => ?_)
          · have hc94 : ¬ (65 ≤ (g p) ∧ (g p) ≤ 90) := dz_bf hc94
            exact k105 J O2 FJ NJ (by unfold sp_sgn; rw [if_neg (by intro h; first | exact h.1 hc80 | exact hc94 h.2), List.append_nil])
          · have hc94 : 65 ≤ (g p) ∧ (g p) ≤ 90 := dz_bt hc94
            refine dz_aload_n x.1 0 d_Model_translateWord_97 rfl rfl ?_
            refine dz_bipush x.1 d_Model_translateWord_98 (by decide) ?_
            refine dz_iload x.1 4 d_Model_translateWord_100 rfl ?_
            refine ly_callV (rest := []) x cl_Model_111 (c_Model_add l D Dt b sz J nb (O2) NJ (by have h8 := sp_step_len (g := g) (bg := bg) (e := e) (a := a) (p := p) RI.wf; have l1 : (sp_sgn g a p).length = 1 := (by unfold sp_sgn; rw [if_pos ⟨hc80, hc94⟩]; rfl); omega) 32 p) (by decide) (ly_Model b) rfl rfl rfl rfl (Nat.le_of_ble_eq_true rfl) d_Model_translateWord_102 (fun v J102 hp102 => ?_)
            obtain ⟨rfl, hfJ102, NJ102⟩ := hp102
            have FJ102 : sp_fb b nb I J102 := FJ.tr hfJ102
            show ly_V κ b sz J102 105 [(0, .ref (b + 130)), (1, .int (dz_i bg)), (2, .int (dz_i e)), (3, .int (dz_i (if a = true then 1 else 0))), (4, .int (dz_i p))] []
            exact k105 J102 _ FJ102 NJ102 (by unfold sp_sgn; rw [if_pos ⟨hc80, hc94⟩])
      · have hnil := sp_wl_nil (F := (sp_step g c S bg e a)) (e := e) (p := p) (by omega) f
        refine dz_iload x.1 4 d_Model_translateWord_73 rfl ?_
        refine dz_iload_n x.1 2 d_Model_translateWord_75 rfl rfl ?_
        refine dz_icmp_ge (tgt := 303) x.1 d_Model_translateWord_76 (by decide) (by omega) (by omega) (fun hc76 => ?_) (fun hc76 => by exfalso; omega)
        exact ly_vret x d_Model_translateWord_303 ⟨rfl, FJ, by rw [hnil, List.append_nil] at hS; rw [← hS]; exact NJ⟩
  have k52 : ly_V κ b sz I 52 [(0, .ref (b + 130)), (1, .int (dz_i bg)), (2, .int (dz_i e)), (3, .int (dz_i (if a = true then 1 else 0))), (4, .int (dz_i e))] [] := by
    refine dz_iload_n x.1 3 d_Model_translateWord_52 rfl rfl ?_
    refine dz_if_eq (tgt := 70) x.1 d_Model_translateWord_53 (by decide) (dz_br _) (fun hc53 => ?_) (fun hc53 => ?_)
    · have hc53 : ¬ (a = true) := dz_bf hc53
      refine dz_iload_n x.1 1 d_Model_translateWord_70 rfl rfl ?_
      refine dz_istore (ls' := [(0, .ref (b + 130)), (1, .int (dz_i bg)), (2, .int (dz_i e)), (3, .int (dz_i (if a = true then 1 else 0))), (4, .int (dz_i bg))]) x.1 d_Model_translateWord_71 hN (by decide) rfl ?_
      exact loop (e - bg).toNat bg 100 O I (by omega) (by omega) FI NI (by rw [hwd]; unfold sp_wp; rw [if_neg hc53]; rfl)
    · have hc53 : a = true := dz_bt hc53
      refine dz_aload_n x.1 0 d_Model_translateWord_56 rfl rfl ?_
      refine dz_bipush x.1 d_Model_translateWord_57 (by decide) ?_
      refine dz_iload_n x.1 1 d_Model_translateWord_59 rfl rfl ?_
      refine ly_callV (rest := []) x cl_Model_111 (c_Model_add l D Dt b sz I nb (O) NI (by rw [hwd] at hlen; unfold sp_wp at hlen; rw [if_pos hc53] at hlen; simp only [List.length_append, List.length_cons, List.length_nil] at hlen; omega) 32 bg) (by decide) (ly_Model b) rfl rfl rfl rfl (Nat.le_of_ble_eq_true rfl) d_Model_translateWord_60 (fun v J60 hp60 => ?_)
      obtain ⟨rfl, hfJ60, NJ60⟩ := hp60
      have FJ60 : sp_fb b nb I J60 := FI.tr hfJ60
      show ly_V κ b sz J60 63 [(0, .ref (b + 130)), (1, .int (dz_i bg)), (2, .int (dz_i e)), (3, .int (dz_i (if a = true then 1 else 0))), (4, .int (dz_i e))] []
      refine dz_aload_n x.1 0 d_Model_translateWord_63 rfl rfl ?_
      refine dz_bipush x.1 d_Model_translateWord_64 (by decide) ?_
      refine dz_iload_n x.1 1 d_Model_translateWord_66 rfl rfl ?_
      refine ly_callV (rest := []) x cl_Model_111 (c_Model_add l D Dt b sz J60 nb (O ++ [(32, bg)]) NJ60 (by rw [hwd] at hlen; unfold sp_wp at hlen; rw [if_pos hc53] at hlen; simp only [List.length_append, List.length_cons, List.length_nil] at hlen ⊢; omega) 32 bg) (by decide) (ly_Model b) rfl rfl rfl rfl (Nat.le_of_ble_eq_true rfl) d_Model_translateWord_67 (fun v J67 hp67 => ?_)
      obtain ⟨rfl, hfJ67, NJ67⟩ := hp67
      have FJ67 : sp_fb b nb I J67 := FJ60.tr hfJ67
      show ly_V κ b sz J67 70 [(0, .ref (b + 130)), (1, .int (dz_i bg)), (2, .int (dz_i e)), (3, .int (dz_i (if a = true then 1 else 0))), (4, .int (dz_i e))] []
      refine dz_iload_n x.1 1 d_Model_translateWord_70 rfl rfl ?_
      refine dz_istore (ls' := [(0, .ref (b + 130)), (1, .int (dz_i bg)), (2, .int (dz_i e)), (3, .int (dz_i (if a = true then 1 else 0))), (4, .int (dz_i bg))]) x.1 d_Model_translateWord_71 hN (by decide) rfl ?_
      exact loop (e - bg).toNat bg 100 _ J67 (by omega) (by omega) FJ67 NJ67 (by rw [hwd]; unfold sp_wp; rw [if_pos hc53]; simp)
  have loop1 : ∀ (k : Nat) (i : Int) (ac : Bool), (bg ≤ i ∧ i + (k : Int) = e) → (ac = (decide (2 ≤ e - bg) && sp_all (sp_isC g bg) (i - bg).toNat)) → ly_V κ b sz I 16 [(0, .ref (b + 130)), (1, .int (dz_i bg)), (2, .int (dz_i e)), (3, .int (dz_i (if ac = true then 1 else 0))), (4, .int (dz_i i))] [] := by
    intro k
    induction k with
    | zero =>
      intro i ac hi hac
      refine dz_iload x.1 4 d_Model_translateWord_16 rfl ?_
      refine dz_iload_n x.1 2 d_Model_translateWord_18 rfl rfl ?_
      refine dz_icmp_ge (tgt := 52) x.1 d_Model_translateWord_19 (by decide) (by omega) (by omega) (fun hc19 => ?_) (fun hc19 => by exfalso; omega)
      have ei : i = e := by omega
      subst ei
      have eac : ac = a := by rw [hac, ha]; unfold sp_wc; exact Bool.and_comm _ _
      rw [eac]
      exact k52
    | succ k ih =>
      intro i ac hi hac
      have hgi := TI.2.1.rng i
      refine dz_iload x.1 4 d_Model_translateWord_16 rfl ?_
      refine dz_iload_n x.1 2 d_Model_translateWord_18 rfl rfl ?_
      refine dz_icmp_ge (tgt := 52) x.1 d_Model_translateWord_19 (by decide) (by omega) (by omega) (fun hc19 => by exfalso; omega) (fun hc19 => ?_)
      refine dz_iload_n x.1 3 d_Model_translateWord_22 rfl rfl ?_
      refine dz_if_eq (tgt := 44) x.1 d_Model_translateWord_23 (by decide) (dz_br _) (fun hc23 => ?_) (fun hc23 => ?_)
      · have hc23 : ¬ (ac = true) := dz_bf hc23
        refine dz_iconst x.1 d_Model_translateWord_44 ?_
        refine dz_istore_n (ls' := [(0, .ref (b + 130)), (1, .int (dz_i bg)), (2, .int (dz_i e)), (3, .int (dz_i 0)), (4, .int (dz_i i))]) x.1 d_Model_translateWord_45 rfl hN (by decide) rfl ?_
        refine dz_iinc (z := i + 1) (ls' := [(0, .ref (b + 130)), (1, .int (dz_i bg)), (2, .int (dz_i e)), (3, .int (dz_i 0)), (4, .int (dz_i (i + 1)))]) x.1 4 d_Model_translateWord_46 rfl hN (by decide) (by omega) rfl ?_
        refine dz_goto (tgt := 16) x.1 d_Model_translateWord_49 (by decide) ?_
        exact ih (i + 1) false (by omega) (by rw [show (i + 1 - bg).toNat = (i - bg).toNat + 1 by omega]; simp only [sp_all]; rw [← Bool.and_assoc, ← hac, show ((i - bg).toNat : Int) = i - bg by omega]; unfold sp_isC; rw [show bg + (i - bg) = i by omega]; first | (rw [Bool.eq_false_iff.mpr hc23]; rfl) | (rw [decide_eq_false hc37]; exact (Bool.and_false _).symm))
      · have hc23 : ac = true := dz_bt hc23
        refine dz_aload_n x.1 0 d_Model_translateWord_26 rfl rfl ?_
        refine dz_aload_n x.1 0 d_Model_translateWord_27 rfl rfl ?_
        refine dz_getr x.1 (ly_Model b) fl_Model_7 (lr_Model_4 b) d_Model_translateWord_28 ?_
        refine dz_iload x.1 4 d_Model_translateWord_31 rfl ?_
        refine dz_cald (w := (g i)) x.1 (ly_MTyped b) (by decide) (by omega) d_Model_translateWord_33 ((TI.fb FI).2.2 i (by omega) (by omega)) ?_
        refine ly_callV (rest := []) x cl_Model_70 (c_Model_isCapital l D Dt b sz I (g i) (by omega)) (by decide) (ly_Model b) rfl rfl rfl rfl (Nat.le_of_ble_eq_true rfl) d_Model_translateWord_34 (fun v I' hp34 => ?_)
        obtain ⟨rfl, hp34I⟩ := hp34
        have hp34I := hp34I.symm
        subst hp34I
        show ly_V κ b sz I 37 [(0, .ref (b + 130)), (1, .int (dz_i bg)), (2, .int (dz_i e)), (3, .int (dz_i (if ac = true then 1 else 0))), (4, .int (dz_i i))] [.int (dz_i (if 65 ≤ (g i) ∧ (g i) ≤ 90 then 1 else 0))]
        refine dz_if_eq (tgt := 44) x.1 d_Model_translateWord_37 (by decide) (dz_br _) (fun hc37 => ?_) (fun hc37 => ?_)
        · have hc37 : ¬ (65 ≤ (g i) ∧ (g i) ≤ 90) := dz_bf hc37
          refine dz_iconst x.1 d_Model_translateWord_44 ?_
          refine dz_istore_n (ls' := [(0, .ref (b + 130)), (1, .int (dz_i bg)), (2, .int (dz_i e)), (3, .int (dz_i 0)), (4, .int (dz_i i))]) x.1 d_Model_translateWord_45 rfl hN (by decide) rfl ?_
          refine dz_iinc (z := i + 1) (ls' := [(0, .ref (b + 130)), (1, .int (dz_i bg)), (2, .int (dz_i e)), (3, .int (dz_i 0)), (4, .int (dz_i (i + 1)))]) x.1 4 d_Model_translateWord_46 rfl hN (by decide) (by omega) rfl ?_
          refine dz_goto (tgt := 16) x.1 d_Model_translateWord_49 (by decide) ?_
          exact ih (i + 1) false (by omega) (by rw [show (i + 1 - bg).toNat = (i - bg).toNat + 1 by omega]; simp only [sp_all]; rw [← Bool.and_assoc, ← hac, show ((i - bg).toNat : Int) = i - bg by omega]; unfold sp_isC; rw [show bg + (i - bg) = i by omega]; first | (rw [Bool.eq_false_iff.mpr hc23]; rfl) | (rw [decide_eq_false hc37]; exact (Bool.and_false _).symm))
        · have hc37 : 65 ≤ (g i) ∧ (g i) ≤ 90 := dz_bt hc37
          refine dz_iconst x.1 d_Model_translateWord_40 ?_
          refine dz_goto (tgt := 45) x.1 d_Model_translateWord_41 (by decide) ?_
          refine dz_istore_n (ls' := [(0, .ref (b + 130)), (1, .int (dz_i bg)), (2, .int (dz_i e)), (3, .int (dz_i 1)), (4, .int (dz_i i))]) x.1 d_Model_translateWord_45 rfl hN (by decide) rfl ?_
          refine dz_iinc (z := i + 1) (ls' := [(0, .ref (b + 130)), (1, .int (dz_i bg)), (2, .int (dz_i e)), (3, .int (dz_i 1)), (4, .int (dz_i (i + 1)))]) x.1 4 d_Model_translateWord_46 rfl hN (by decide) (by omega) rfl ?_
          refine dz_goto (tgt := 16) x.1 d_Model_translateWord_49 (by decide) ?_
          exact ih (i + 1) true (by omega) (by rw [show (i + 1 - bg).toNat = (i - bg).toNat + 1 by omega]; simp only [sp_all]; rw [← Bool.and_assoc, ← hac, show ((i - bg).toNat : Int) = i - bg by omega]; unfold sp_isC; rw [show bg + (i - bg) = i by omega]; rw [hc23, decide_eq_true hc37]; rfl)
  show ly_V κ b sz I 0 [(0, .ref (b + 130)), (1, .int (dz_i bg)), (2, .int (dz_i e))] []
  refine dz_iload_n x.1 2 d_Model_translateWord_0 rfl rfl ?_
  refine dz_iload_n x.1 1 d_Model_translateWord_1 rfl rfl ?_
  refine dz_isub (z := e - bg) x.1 d_Model_translateWord_2 (by omega) ?_
  refine dz_iconst x.1 d_Model_translateWord_3 ?_
  refine dz_icmp_le (tgt := 11) x.1 d_Model_translateWord_4 (by decide) (by omega) (by omega) (fun hc4 => ?_) (fun hc4 => ?_)
  · refine dz_iconst x.1 d_Model_translateWord_11 ?_
    refine dz_istore_n (ls' := [(0, .ref (b + 130)), (1, .int (dz_i bg)), (2, .int (dz_i e)), (3, .int (dz_i 0))]) x.1 d_Model_translateWord_12 rfl hN (by decide) rfl ?_
    refine dz_iload_n x.1 1 d_Model_translateWord_13 rfl rfl ?_
    refine dz_istore (ls' := [(0, .ref (b + 130)), (1, .int (dz_i bg)), (2, .int (dz_i e)), (3, .int (dz_i 0)), (4, .int (dz_i bg))]) x.1 d_Model_translateWord_14 hN (by decide) rfl ?_
    exact loop1 (e - bg).toNat bg false (by omega) (by rw [show (bg - bg).toNat = 0 by omega, decide_eq_false (by omega)]; rfl)
  · refine dz_iconst x.1 d_Model_translateWord_7 ?_
    refine dz_goto (tgt := 12) x.1 d_Model_translateWord_8 (by decide) ?_
    refine dz_istore_n (ls' := [(0, .ref (b + 130)), (1, .int (dz_i bg)), (2, .int (dz_i e)), (3, .int (dz_i 1))]) x.1 d_Model_translateWord_12 rfl hN (by decide) rfl ?_
    refine dz_iload_n x.1 1 d_Model_translateWord_13 rfl rfl ?_
    refine dz_istore (ls' := [(0, .ref (b + 130)), (1, .int (dz_i bg)), (2, .int (dz_i e)), (3, .int (dz_i 1)), (4, .int (dz_i bg))]) x.1 d_Model_translateWord_14 hN (by decide) rfl ?_
    exact loop1 (e - bg).toNat bg true (by omega) (by rw [show (bg - bg).toNat = 0 by omega, decide_eq_true (by omega)]; rfl)
