theorem ct_s_0 (b : Nat) : ct_s b 0 = dz_no := by
  funext q
  unfold ct_s dz_no
  by_cases h : q < b + 0
  · rw [if_pos h]; unfold ly_s; rw [if_pos (by omega)]
  · rw [if_neg h]
theorem ct_s_all (b : Nat) : ct_s b 146 = ly_s b := by
  funext q
  unfold ct_s
  by_cases h : q < b + 146
  · rw [if_pos h]
  · rw [if_neg h]
    unfold ly_s ly_k
    rw [if_neg (by omega)]
    repeat rw [if_neg (by omega)]
theorem ct_full {b : Nat} {α : Nat → Int → Bool} (hf : ct_fl b 0 130 α) : ct_r b (ct_a (ct_a (ct_a (ct_a (ct_a (ct_a (ct_a (ct_a (ct_a (ct_a (ct_a (ct_a (ct_a (ct_a α (b + 130) 4) (b + 130) 6) (b + 130) 7) (b + 130) 8) (b + 130) 9) (b + 130) 10) (b + 130) 13) (b + 130) 14) (b + 130) 15) (b + 130) 16) (b + 130) 18) (b + 130) 20) (b + 130) 26) (b + 130) 27) = ly_r b := by
  apply ct_r_full
  intro q k v hv
  have hqb : b ≤ q := by
    by_cases c : b ≤ q
    · exact c
    · unfold ly_r at hv; rw [if_pos (by omega)] at hv; cases hv
  obtain ⟨o, rfl⟩ : ∃ o, q = b + o := ⟨q - b, by omega⟩
  rw [ly_rat] at hv
  cases hr : ly_rr o k with
  | none => rw [hr] at hv; cases hv
  | some u =>
    by_cases h130 : o < 130
    · have h1 := hf o k u (by omega) h130 hr
      rw [ct_a_n (Or.inl (by omega)), ct_a_n (Or.inl (by omega)), ct_a_n (Or.inl (by omega)), ct_a_n (Or.inl (by omega)), ct_a_n (Or.inl (by omega)), ct_a_n (Or.inl (by omega)), ct_a_n (Or.inl (by omega)), ct_a_n (Or.inl (by omega)), ct_a_n (Or.inl (by omega)), ct_a_n (Or.inl (by omega)), ct_a_n (Or.inl (by omega)), ct_a_n (Or.inl (by omega)), ct_a_n (Or.inl (by omega)), ct_a_n (Or.inl (by omega))]
      exact h1
    · have ho : o = 130 := by
        by_cases e : o = 130
        · exact e
        · exfalso
          unfold ly_rr at hr
          repeat rw [if_neg (by omega)] at hr
          cases hr
      subst ho
      have hk : k = 4 ∨ k = 6 ∨ k = 7 ∨ k = 8 ∨ k = 9 ∨ k = 10 ∨ k = 13 ∨ k = 14 ∨ k = 15 ∨ k = 16 ∨ k = 18 ∨ k = 20 ∨ k = 26 ∨ k = 27 := by
        apply Decidable.byContradiction
        intro hkn
        unfold ly_rr at hr
        repeat rw [if_neg (by omega)] at hr
        cases hr
      rcases hk with rfl | rfl | rfl | rfl | rfl | rfl | rfl | rfl | rfl | rfl | rfl | rfl | rfl | rfl <;> simp [ct_a]
theorem sp_clamp_rng {lo hi : Int} (w : Int) (h : lo ≤ hi) : lo ≤ sp_clamp lo hi w ∧ sp_clamp lo hi w ≤ hi := by unfold sp_clamp; (repeat' split) <;> omega
def lw_J (b : Nat) (W T1 : Int) : dz_Hp := (dz_up (dz_up (dz_up (dz_up (dz_up (dz_up (dz_up (dz_up (dz_up (fun _ _ => 0) (b + 3) 2 (-1)) (b + 80) 5 1) (b + 80) 7 1) (b + 80) 0 W) (b + 80) 1 T1) (b + 80) 2 (T1 - 1)) (b + 130) 11 (-1)) (b + 130) 1 W) (b + 130) 2 T1)
theorem lw_I0 (b : Nat) {W T1 : Int} (hW : 10 ≤ W ∧ W ≤ 40) (hT : 4 ≤ T1 ∧ T1 ≤ 20) : lw_I b (lw_J b W T1) W (T1 - 1) := by
  have lo : ∀ q, q < b + 130 → q ≠ b + 3 → q ≠ b + 80 → ∀ k, lw_J b W T1 q k = 0 := fun q h1 h2 h3 k => by unfold lw_J; (repeat rw [dz_up_n _ _ _ (by omega)])
  have hi9 : ∀ q, b + 130 < q → ∀ k, lw_J b W T1 q k = 0 := fun q h1 k => by unfold lw_J; (repeat rw [dz_up_n _ _ _ (by omega)])
  have e3 : lw_J b W T1 (b + 3) 2 = -1 := by unfold lw_J; (repeat (first | rw [dz_up_s] | rw [dz_up_k _ _ _ (by omega)] | rw [dz_up_n _ _ _ (by omega)]))
  have e31 : lw_J b W T1 (b + 3) 1 = 0 := by unfold lw_J; (repeat (first | rw [dz_up_s] | rw [dz_up_k _ _ _ (by omega)] | rw [dz_up_n _ _ _ (by omega)]))
  have e80 : sp_K b (lw_J b W T1) W (T1 - 1) 0 1 0 1 := by
    unfold lw_J
    refine ⟨?_, ?_, ?_, ?_, ?_, ?_, ?_⟩
    · (repeat (first | rw [dz_up_s] | rw [dz_up_k _ _ _ (by omega)] | rw [dz_up_n _ _ _ (by omega)]))
    · (repeat (first | rw [dz_up_s] | rw [dz_up_k _ _ _ (by omega)] | rw [dz_up_n _ _ _ (by omega)])); omega
    · (repeat (first | rw [dz_up_s] | rw [dz_up_k _ _ _ (by omega)] | rw [dz_up_n _ _ _ (by omega)]))
    · (repeat (first | rw [dz_up_s] | rw [dz_up_k _ _ _ (by omega)] | rw [dz_up_n _ _ _ (by omega)]))
    · (repeat (first | rw [dz_up_s] | rw [dz_up_k _ _ _ (by omega)] | rw [dz_up_n _ _ _ (by omega)]))
    · (repeat (first | rw [dz_up_s] | rw [dz_up_k _ _ _ (by omega)] | rw [dz_up_n _ _ _ (by omega)]))
    · (repeat (first | rw [dz_up_s] | rw [dz_up_k _ _ _ (by omega)] | rw [dz_up_n _ _ _ (by omega)]))
  have em : ∀ k : Int, k ≠ 1 → k ≠ 2 → k ≠ 11 → lw_J b W T1 (b + 130) k = 0 := fun k h1 h2 h3 => by unfold lw_J; (repeat (first | rw [dz_up_s] | rw [dz_up_k _ _ _ (by omega)] | rw [dz_up_n _ _ _ (by omega)]))
  refine ⟨0, fun _ => 0, 0, fun _ => (0, 0, 0, fun _ => 0, fun _ => 0), -1, 0, fun _ => (0, []), [], ⟨⟨hW, by omega⟩, ⟨lo _ (by omega) (by omega) (by omega) 1, ⟨by omega, by omega, fun j h1 h2 => by omega⟩, ?_⟩, ⟨e31, by omega, fun r hr => by omega⟩, ⟨e3, by omega, by omega⟩, e80, by omega, fun j hj => by omega, fun j hj => ?_, ⟨lo _ (by omega) (by omega) (by omega) 2, by simp, fun j e he => by simp at he, fun e he => by simp at he⟩⟩, ⟨⟨hW, by omega⟩, ⟨by unfold lw_J; (repeat (first | rw [dz_up_s] | rw [dz_up_k _ _ _ (by omega)] | rw [dz_up_n _ _ _ (by omega)])), by unfold lw_J; (repeat (first | rw [dz_up_s] | rw [dz_up_k _ _ _ (by omega)] | rw [dz_up_n _ _ _ (by omega)])); omega⟩, sp_MT_0 (em 3 (by decide) (by decide) (by decide)), ⟨em 5 (by decide) (by decide) (by decide), by omega, fun r hr => by omega⟩, ⟨by unfold lw_J; (repeat (first | rw [dz_up_s] | rw [dz_up_k _ _ _ (by omega)] | rw [dz_up_n _ _ _ (by omega)])), by omega, by omega⟩, ⟨em 12 (by decide) (by decide) (by decide), by omega, fun j hj => by omega⟩, ⟨em 17 (by decide) (by decide) (by decide), by simp, fun i e he => by simp at he, fun e he => by simp at he, false, false, em 28 (by decide) (by decide) (by decide)⟩⟩⟩
  · funext j; unfold sp_at; rw [if_neg (by omega)]
  · rw [lo (b + (82 + 4 * j)) (by omega) (by omega) (by omega), lo (b + (82 + 4 * j)) (by omega) (by omega) (by omega)]; omega
section lw_begin
variable {κ : dz_Kx} {l : Launch} {D : va_G} {Dt : Nat → ClassId} {b b0 L : Nat} {xs : Nat → Int32}
set_option maxRecDepth 100000 in
set_option maxHeartbeats 4000000 in
theorem w_begin (hst9 : l.stackTraces = false) (x : dz_Am κ b_Law_law R_Law ∧ True) (dd : dz_Dd κ l D Dt 7) (rm : dz_Rm κ 15 601024 7293000) (sc : dz_Sc κ b0 L xs) (hL : L ≤ 2050)
    (kend : ∀ (cells slots sz : Nat) (J : dz_Hp) (ls : List (Nat × Value)), cells ≤ 2000 → slots ≤ 100000 → dz_V κ cells slots sz (ly_s b) (ly_r b) J 734 ls []) :
    dz_V κ 0 0 (b + 0) (ct_s b 0) (ct_r b (fun _ _ => false)) (fun _ _ => 0) 0 [(0, .ref b0)] [] := by
  have hN := dz_dd_N dd
  have hw := sp_sc_rng L xs 0
  have hh := sp_sc_rng L xs 1
  have hZ : ∀ q0, ct_z (fun _ _ => false) (fun _ _ => 0) q0 := fun q0 q' h' => ⟨fun _ => rfl, fun _ => rfl⟩
  refine ct_new x.1 rm nl_Law_8 rfl (hZ _) d_Law_law_0 (by omega) (by omega) ?_
  refine dz_dup x.1 d_Law_law_3 rfl ?_
  refine dz_aload_n x.1 0 d_Law_law_4 rfl rfl ?_
  refine dz_iconst x.1 d_Law_law_5 ?_
  refine dz_callSc x.1 dd rm sc hL (by omega) (by decide) (by omega) (by omega) (Nat.le_of_ble_eq_true rfl) d_Law_law_6 ?_
  refine dz_aload_n x.1 0 d_Law_law_9 rfl rfl ?_
  refine dz_iconst x.1 d_Law_law_10 ?_
  refine dz_callSc x.1 dd rm sc hL (by omega) (by decide) (by omega) (by omega) (Nat.le_of_ble_eq_true rfl) d_Law_law_11 ?_
  refine dz_callI (rest := [.ref (b + 0)]) x.1 dd rm cl_Law_49 (c_DotBook_init l D Dt b (fun _ _ => false) (fun _ _ => 0) (sp_sc L xs 0) (sp_sc L xs 1) hw hh (hZ _)) (by decide) (by omega) (by omega) rfl rfl (Nat.le_of_ble_eq_true rfl) d_Law_law_14 (fun v sz1 sk1 rf1 I1 hp => ?_)
  obtain ⟨rfl, rfl, rfl, rfl, α, rfl, -, hfl, hz1⟩ := hp
  refine dz_astore_n (ls' := [(0, .ref b0), (1, .ref (b + 0))]) x.1 d_Law_law_17 rfl hN (by decide) rfl ?_
  refine ct_new x.1 rm nl_Law_52 rfl hz1 d_Law_law_18 (by omega) (by omega) ?_
  refine dz_dup x.1 d_Law_law_21 rfl ?_
  refine dz_aload_n x.1 0 d_Law_law_22 rfl rfl ?_
  refine dz_iconst x.1 d_Law_law_23 ?_
  refine dz_callSc x.1 dd rm sc hL (by omega) (by decide) (by omega) (by omega) (Nat.le_of_ble_eq_true rfl) d_Law_law_24 ?_
  refine dz_aload_n x.1 0 d_Law_law_27 rfl rfl ?_
  refine dz_iconst x.1 d_Law_law_28 ?_
  refine dz_callSc x.1 dd rm sc hL (by omega) (by decide) (by omega) (by omega) (Nat.le_of_ble_eq_true rfl) d_Law_law_29 ?_
  refine dz_callI (rest := [.ref (b + 130)]) x.1 dd rm cl_Law_54 (c_Model_init l D Dt b α _ (sp_sc L xs 0) (sp_sc L xs 1) hw hh (ct_z_s hz1)) (by decide) (by omega) (by omega) rfl rfl (Nat.le_of_ble_eq_true rfl) d_Law_law_32 (fun v sz1 sk1 rf1 I1 hp => ?_)
  obtain ⟨rfl, rfl, rfl, rfl, rfl⟩ := hp
  refine dz_astore_n (ls' := [(0, .ref b0), (1, .ref (b + 0)), (2, .ref (b + 130))]) x.1 d_Law_law_35 rfl hN (by decide) rfl ?_
  refine dz_iconst x.1 d_Law_law_36 ?_
  refine ct_newa x.1 rm 2 1 (by decide) rfl (by decide) al_long (fun q' h' => ⟨fun i => by rw [ct_a_n (Or.inl (by omega)), ct_a_n (Or.inl (by omega)), ct_a_n (Or.inl (by omega)), ct_a_n (Or.inl (by omega)), ct_a_n (Or.inl (by omega)), ct_a_n (Or.inl (by omega)), ct_a_n (Or.inl (by omega)), ct_a_n (Or.inl (by omega)), ct_a_n (Or.inl (by omega)), ct_a_n (Or.inl (by omega)), ct_a_n (Or.inl (by omega)), ct_a_n (Or.inl (by omega)), ct_a_n (Or.inl (by omega)), ct_a_n (Or.inl (by omega))]; exact (hz1 q' (by omega)).1 i, fun i => by rw [dz_up_n _ _ _ (by omega), dz_up_n _ _ _ (by omega), dz_up_n _ _ _ (by omega)]; exact (hz1 q' (by omega)).2 i⟩) d_Law_law_37 (by omega) (by omega) ?_
  refine dz_astore_n (ls' := [(0, .ref b0), (1, .ref (b + 0)), (2, .ref (b + 130)), (3, .ref (b + 145))]) x.1 d_Law_law_39 rfl hN (by decide) rfl ?_
  refine dz_iconst x.1 d_Law_law_40 ?_
  refine dz_istore (ls' := [(0, .ref b0), (1, .ref (b + 0)), (2, .ref (b + 130)), (3, .ref (b + 145)), (4, .int (dz_i 2))]) x.1 d_Law_law_41 hN (by decide) rfl ?_
  have hI := lw_I0 b (sp_clamp_rng (lo := 10) (hi := 40) (sp_sc L xs 0) (by omega)) (sp_clamp_rng (lo := 4) (hi := 20) (sp_sc L xs 1) (by omega))
  have h9 := w_loop (W := sp_clamp 10 40 (sp_sc L xs 0)) (T := sp_clamp 4 20 (sp_sc L xs 1) - 1) hst9 x dd rm sc hL 146 16765 (by omega) kend 512 0 (b + 146) _ (by omega) hI
  rw [← ct_s_all, ← ct_full hfl] at h9
  exact h9
end lw_begin
