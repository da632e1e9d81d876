theorem sp_T_put {b : Nat} {I : dz_Hp} {n : Int} {g : Int → Int} (h : sp_T b I n g) (hn : n < 80) {ch : Int} (hc : 32 ≤ ch ∧ ch ≤ 126) : sp_T b (dz_up (dz_up I (b + 2) n ch) (b + 1) 1 (n + 1)) (n + 1) (dz_u g n ch) := by
  have h80 := h.nn
  refine ⟨dz_up_s _ _ _ _, ⟨by omega, by omega, fun j h1 h2 => ?_⟩, ?_⟩
  · rw [dz_up_n _ _ _ (by omega)]
    by_cases e : j = n
    · rw [e, dz_up_s]; exact hc
    · rw [dz_up_k _ _ _ e]; exact h.2.1.2.2 j h1 (by omega)
  · funext j
    rw [dz_up_n _ _ _ (by omega), ← h.2.2]
    unfold sp_at
    by_cases e : j = n
    · rw [e, dz_u_s, if_pos (by omega), dz_up_s]
    · rw [dz_u_n _ _ e, dz_up_k _ _ _ e]
      by_cases c : 0 ≤ j ∧ j < n
      · rw [if_pos c, if_pos (by omega)]
      · rw [if_neg c, if_neg (by omega)]
theorem sp_T_0 {b : Nat} {I : dz_Hp} : sp_T b (dz_up I (b + 1) 1 0) 0 (fun _ => 0) := by
  refine ⟨dz_up_s _ _ _ _, ⟨by omega, by omega, fun j h1 h2 => by omega⟩, ?_⟩
  funext j
  unfold sp_at
  rw [if_neg (by omega)]
theorem sp_CB.fr {b : Nat} {I J : dz_Hp} {W T : Int} {Bk : Nat → sp_Bk} {j : Nat} (h : sp_CB b I W T Bk j) (h1 : J (b + (82 + 4 * j)) = I (b + (82 + 4 * j))) (h2 : J (b + (83 + 4 * j)) = I (b + (83 + 4 * j))) (h3 : J (b + (84 + 4 * j)) = I (b + (84 + 4 * j))) (h4 : J (b + (85 + 4 * j)) = I (b + (85 + 4 * j))) : sp_CB b J W T Bk j := by
  obtain ⟨a1, a2, a3, a4, a5⟩ := h
  refine ⟨by rw [h1]; exact a1, a2.fr (by rw [h1]) h2, a3.fr (by rw [h1]) (by rw [h1]) h3 h4, by rw [h1]; exact a4, a5⟩
section sp_cl_rows
variable {b : Nat} {I J : dz_Hp} {W T n : Int} {g : Int → Int} {c : Nat} {S : Nat → sp_Ru} {w : Int} {nb : Nat} {Bk : Nat → sp_Bk} {H : List Int}
theorem sp_CL.txt (C : sp_CL b I W T n g c S w nb Bk H) (hF : sp_fr I J (fun q => q = b + 1 ∨ q = b + 2)) {n' : Int} {g' : Int → Int} (hT : sp_T b J n' g') : sp_CL b J W T n' g' c S w nb Bk H := by
  obtain ⟨a1, a2, a3, a4, a5, a6, a7, a8, a9⟩ := C
  have k : ∀ q, b + 3 ≤ q → J q = I q := fun q hq => hF q (fun h => by rcases h with h | h <;> omega)
  refine ⟨a1, hT, a3.fr (by rw [k _ (by omega)]) (fun q h1 h2 => k q (by omega)), by rw [k _ (by omega)]; exact a4, a5.fr (k _ (by omega)), a6, fun j hj => (a7 j hj).fr (k _ (by omega)) (k _ (by omega)) (k _ (by omega)) (k _ (by omega)), fun j hj => by rw [k _ (by omega)]; exact a8 j hj, a9.fr (by rw [k _ (by omega)]) (k _ (by omega))⟩
theorem sp_CL.rul (C : sp_CL b I W T n g c S w nb Bk H) (hF : sp_fr I J (fun q => q = b + 3 ∨ (b + 5 ≤ q ∧ q < b + 77))) {c' : Nat} {S' : Nat → sp_Ru} {w' : Int} (hR : sp_RC b J c' S') (hw : J (b + 3) 2 = w' ∧ -1 ≤ w' ∧ w' ≤ 100) : sp_CL b J W T n g c' S' w' nb Bk H := by
  obtain ⟨a1, a2, a3, a4, a5, a6, a7, a8, a9⟩ := C
  have k : ∀ q, b + 77 ≤ q → J q = I q := fun q hq => hF q (fun h => by rcases h with h | h <;> omega)
  have k2 : ∀ q, q < b + 3 → J q = I q := fun q hq => hF q (fun h => by rcases h with h | h <;> omega)
  refine ⟨a1, a2.fr (k2 _ (by omega)) (k2 _ (by omega)), hR, hw, a5.fr (k _ (by omega)), a6, fun j hj => (a7 j hj).fr (k _ (by omega)) (k _ (by omega)) (k _ (by omega)) (k _ (by omega)), fun j hj => by rw [k _ (by omega)]; exact a8 j hj, a9.fr (by rw [k _ (by omega)]) (k _ (by omega))⟩
theorem sp_CL.hrd (C : sp_CL b I W T n g c S w nb Bk H) (hF : sp_fr I J (fun q => q = b + 78 ∨ q = b + 79)) {H' : List Int} (hH : sp_H b J H') : sp_CL b J W T n g c S w nb Bk H' := by
  obtain ⟨a1, a2, a3, a4, a5, a6, a7, a8, a9⟩ := C
  have k : ∀ q, b + 80 ≤ q → J q = I q := fun q hq => hF q (fun h => by rcases h with h | h <;> omega)
  have k2 : ∀ q, q < b + 78 → J q = I q := fun q hq => hF q (fun h => by rcases h with h | h <;> omega)
  refine ⟨a1, a2.fr (k2 _ (by omega)) (k2 _ (by omega)), a3.fr (by rw [k2 _ (by omega)]) (fun q h1 h2 => k2 q (by omega)), by rw [k2 _ (by omega)]; exact a4, a5.fr (k _ (by omega)), a6, fun j hj => (a7 j hj).fr (k _ (by omega)) (k _ (by omega)) (k _ (by omega)) (k _ (by omega)), fun j hj => by rw [k _ (by omega)]; exact a8 j hj, hH⟩
theorem sp_CL.clr (C : sp_CL b I W T n g c S w nb Bk H) (hF : sp_fr I J (fun q => q = b + 80)) (hK : sp_K b J W T 0 1 0 1) : sp_CL b J W T n g c S w 0 Bk H := by
  obtain ⟨a1, a2, a3, a4, a5, a6, a7, a8, a9⟩ := C
  have k : ∀ q, q ≠ b + 80 → J q = I q := fun q hq => hF q hq
  refine ⟨a1, a2.fr (k _ (by omega)) (k _ (by omega)), a3.fr (by rw [k _ (by omega)]) (fun q h1 h2 => k q (by omega)), by rw [k _ (by omega)]; exact a4, hK, by omega, fun j hj => by omega, fun j hj => by rw [k _ (by omega)]; exact a8 j hj, a9.fr (by rw [k _ (by omega)]) (k _ (by omega))⟩
end sp_cl_rows
theorem sp_tk_w {g : Int → Int} {n : Int} : ∀ (m : Nat) (i f0 num w : Int) (c : Nat) (S : Nat → sp_Ru), -1 ≤ w → w ≤ num → 0 ≤ num → -1 ≤ (sp_tk g n m i f0 num w c S).1 ∧ (sp_tk g n m i f0 num w c S).1 ≤ num + m := by
  intro m
  induction m with
  | zero => intro i f0 num w c S h1 h2 h3; simp only [sp_tk]; omega
  | succ m ih =>
    intro i f0 num w c S h1 h2 h3
    simp only [sp_tk]
    split
    · split
      · have := ih (i + 1) (i + 1) (num + 1) (if w = -1 then num else w) c S (by split <;> omega) (by split <;> omega) (by omega)
        omega
      · rename_i u _
        have := ih (i + 1) (i + 1) (num + 1) w (c + 1) (sp_set S c u) h1 (by omega) (by omega)
        omega
    · have := ih (i + 1) f0 num w c S h1 h2 h3
      omega
def sp_cb (n : Int) (g : Int → Int) : Bool := sp_all (fun j => sp_has (g j)) n.toNat
theorem sp_allF_all (t : Int → Int) (k : Nat) : sp_allF t k = sp_all (fun j => sp_has (t j)) k := by
  induction k with
  | zero => rfl
  | succ k ih => simp only [sp_allF, sp_all, ih]
theorem c_canT (l : Launch) (D : va_G) (Dt : Nat → ClassId) (b sz : Nat) (I : dz_Hp) (n : Int) (g : Int → Int) (TI : sp_T b I n g) : ly_M l D Dt b sz y_Typed_canBeTranslated b_Typed_canBeTranslated 2 (some .boolean) 6 [.ref (b + 1)] I (fun v I' => v = some (.int (dz_i (if sp_cb n g = true then 1 else 0))) ∧ I' = I) := by
  have h := c_Typed_canBeTranslated l D Dt b sz I n TI.1 TI.2.1
  have e : sp_allF (I (b + 2)) n.toNat = sp_cb n g := by
    rw [sp_allF_all]
    exact sp_all_congr (fun j h1 h2 => by rw [(TI.ins (i := j) (by omega)).1])
  rw [e] at h
  exact h
def sp_setB (Bk : Nat → sp_Bk) (nb : Nat) (y : sp_Bk) : Nat → sp_Bk := fun r => if r = nb then y else Bk r
theorem sp_bs_congr {W T : Int} {Bk Bk' : Nat → sp_Bk} : ∀ j : Nat, (∀ i, i < j → Bk' i = Bk i) → sp_bs W T Bk' j = sp_bs W T Bk j := by
  intro j
  induction j with
  | zero => intro _; rfl
  | succ j ih => intro h; simp only [sp_bs]; rw [ih (fun i hi => h i (by omega)), h j (by omega)]
theorem sp_pp_congr {W T : Int} {Bk Bk' : Nat → sp_Bk} {j : Nat} (h : ∀ i, i ≤ j → Bk' i = Bk i) : sp_pp W T Bk' j = sp_pp W T Bk j := by
  unfold sp_pp sp_bx
  rw [sp_bs_congr j (fun i hi => h i (by omega)), h j (Nat.le_refl _)]
def sp_atx (W T : Int) (Bk : Nat → sp_Bk) (nb : Nat) (p l9 pl : Int) : Int := sp_ctx (sp_fnd W T (fun j => (Bk j).1) (fun j => sp_bl W (Bk j)) (fun j => (sp_pp W T Bk j).1) (fun j => (sp_pp W T Bk j).2) p l9 pl) nb 0
theorem sp_ctx_congr {f f' : Nat → Option Int} : ∀ (k j : Nat), (∀ i, j ≤ i → i < j + k → f i = f' i) → sp_ctx f k j = sp_ctx f' k j := by
  intro k
  induction k with
  | zero => intro j _; rfl
  | succ k ih => intro j h; simp only [sp_ctx]; rw [h j (by omega) (by omega), ih (j + 1) (fun i h1 h2 => h i (by omega) (by omega))]
def sp_hdg (W : Int) (Bk : Nat → sp_Bk) (i : Int) : Nat → Nat → Int → Int
  | 0, _, _ => -1
  | k + 1, j, bf => if (Bk j).1 = 1 ∧ 0 < (sp_bl W (Bk j)).length then (if bf = i then (j : Int) else sp_hdg W Bk i k (j + 1) (bf + 1)) else sp_hdg W Bk i k (j + 1) bf
set_option maxRecDepth 100000 in
set_option maxHeartbeats 4000000 in
theorem c_DotBook_type (l : Launch) (hst9 : l.stackTraces = false) (D : va_G) (Dt : Nat → ClassId) (b sz : Nat) (I : dz_Hp) (W T n : Int) (g : Int → Int) (c : Nat) (S : Nat → sp_Ru) (w : Int) (nb : Nat) (Bk : Nat → sp_Bk) (H : List Int) (CI : sp_CL b I W T n g c S w nb Bk H) (ch : Int) (hch : 0 ≤ ch ∧ ch < 65536) : ly_CX l D Dt b sz y_DotBook_type b_DotBook_type 2 (some .int) 7 [.ref (b + 0), .int (dz_i ch)] I (fun v I' => v = some (.int (dz_i (n + 1))) ∧ ¬ (ch < 32 ∨ 126 < ch) ∧ n < 80 ∧ sp_CL b I' W T (n + 1) (dz_u g n ch) c S w nb Bk H ∧ sp_fr I I' (fun q => q < b + 130)) (fun E I' => ((E = xc_IAE ∧ (ch < 32 ∨ 126 < ch)) ∨ (E = xc_ISE ∧ ¬ (ch < 32 ∨ 126 < ch) ∧ 80 ≤ n)) ∧ I' = I) := by
  refine ly_enterX hst9 R_DotBook (by decide) rfl (Nat.le_of_ble_eq_true rfl) (ly_cat _ 0 rfl) (fun κ x => ?_)
  have hN := ly_NX x
  obtain ⟨⟨hW, hT⟩, TI, RI, hw1, KI, hnb, HB, HP, HI⟩ := id CI
  have hn9 := TI.nn
  have hc24 := RI.2.1
  have hbs := sp_bs_rng hW hT.1 nb (fun i hi => (HB i hi).2.2.2.2)
  have hHl := HI.2.1
  show ly_V κ b sz I 0 [(0, .ref (b + 0)), (1, .int (dz_i ch))] []
  refine dz_iload_n x.1 1 d_DotBook_type_0 rfl rfl ?_
  refine dz_bipush x.1 d_DotBook_type_1 (by decide) ?_
  refine dz_icmp_lt (tgt := 12) x.1 d_DotBook_type_3 (by decide) (by omega) (by omega) (fun hc3 => ?_) (fun hc3 => ?_)
  · exact ly_IAE x (by decide) d_DotBook_type_12 d_DotBook_type_15 d_DotBook_type_16 d_DotBook_type_19 ⟨Or.inl ⟨rfl, by omega⟩, rfl⟩
  · refine dz_iload_n x.1 1 d_DotBook_type_6 rfl rfl ?_
    refine dz_bipush x.1 d_DotBook_type_7 (by decide) ?_
    refine dz_icmp_le (tgt := 20) x.1 d_DotBook_type_9 (by decide) (by omega) (by omega) (fun hc9 => ?_) (fun hc9 => ?_)
    · refine dz_aload_n x.1 0 d_DotBook_type_20 rfl rfl ?_
      refine dz_getr x.1 (ly_DotBook b) fl_DotBook_12 (lr_DotBook_0 b) d_DotBook_type_21 ?_
      refine dz_geti (z := n) x.1 (ly_Typed b) fl_DotBook_62 d_DotBook_type_24 TI.1 ?_
      refine dz_bipush x.1 d_DotBook_type_27 (by decide) ?_
      refine dz_icmp_lt (tgt := 40) x.1 d_DotBook_type_29 (by decide) (by omega) (by omega) (fun hc29 => ?_) (fun hc29 => ?_)
      · refine dz_aload_n x.1 0 d_DotBook_type_40 rfl rfl ?_
        refine dz_getr x.1 (ly_DotBook b) fl_DotBook_12 (lr_DotBook_0 b) d_DotBook_type_41 ?_
        refine dz_iload_n x.1 1 d_DotBook_type_44 rfl rfl ?_
        refine ly_callVX (rest := []) x cl_DotBook_69 (c_Typed_put l D Dt b sz I n TI.1 TI.2.1 (by omega) ch hch) (by decide) (ly_Typed b) rfl rfl rfl rfl (Nat.le_of_ble_eq_true rfl) d_DotBook_type_45 (fun v I' hp45 => ?_)
        obtain ⟨rfl, hp45I⟩ := hp45
        have hp45I := hp45I.symm
        subst hp45I
        show ly_V κ b sz (dz_up (dz_up I (b + 2) n ch) (b + 1) 1 (n + 1)) 48 [(0, .ref (b + 0)), (1, .int (dz_i ch))] []
        refine dz_aload_n x.1 0 d_DotBook_type_48 rfl rfl ?_
        refine dz_getr x.1 (ly_DotBook b) fl_DotBook_12 (lr_DotBook_0 b) d_DotBook_type_49 ?_
        refine dz_geti (z := n + 1) x.1 (ly_Typed b) fl_DotBook_62 d_DotBook_type_52 (dz_up_s _ _ _ _) ?_
        exact ly_iretX x d_DotBook_type_55 rfl ⟨rfl, by omega, by omega, CI.txt ((sp_fr.rf.up (Or.inr rfl)).up (Or.inl rfl)) (sp_T_put TI (by omega) (by omega)), ((sp_fr.rf (P := fun q => q < b + 130)).up (show b + 2 < b + 130 by omega)).up (show b + 1 < b + 130 by omega)⟩
      · exact ly_ISE x (by decide) d_DotBook_type_32 d_DotBook_type_35 d_DotBook_type_36 d_DotBook_type_39 ⟨Or.inr ⟨rfl, by omega, by omega⟩, rfl⟩
    · exact ly_IAE x (by decide) d_DotBook_type_12 d_DotBook_type_15 d_DotBook_type_16 d_DotBook_type_19 ⟨Or.inl ⟨rfl, by omega⟩, rfl⟩
set_option maxRecDepth 100000 in
set_option maxHeartbeats 4000000 in
theorem c_DotBook_wipe (l : Launch) (D : va_G) (Dt : Nat → ClassId) (b sz : Nat) (I : dz_Hp) (W T n : Int) (g : Int → Int) (c : Nat) (S : Nat → sp_Ru) (w : Int) (nb : Nat) (Bk : Nat → sp_Bk) (H : List Int) (CI : sp_CL b I W T n g c S w nb Bk H)  : ly_M l D Dt b sz y_DotBook_wipe b_DotBook_wipe 1 none 1 [.ref (b + 0)] I (fun v I' => v = none ∧ sp_CL b I' W T 0 (fun _ => 0) c S w nb Bk H ∧ sp_fr I I' (fun q => q < b + 130)) := by
  refine ly_enter R_DotBook (by decide) rfl (Nat.le_of_ble_eq_true rfl) (ly_cat _ 0 rfl) (fun κ x => ?_)
  have hN := ly_N x
  obtain ⟨⟨hW, hT⟩, TI, RI, hw1, KI, hnb, HB, HP, HI⟩ := id CI
  have hn9 := TI.nn
  have hc24 := RI.2.1
  have hbs := sp_bs_rng hW hT.1 nb (fun i hi => (HB i hi).2.2.2.2)
  have hHl := HI.2.1
  show ly_V κ b sz I 0 [(0, .ref (b + 0))] []
  refine dz_aload_n x.1 0 d_DotBook_wipe_0 rfl rfl ?_
  refine dz_getr x.1 (ly_DotBook b) fl_DotBook_12 (lr_DotBook_0 b) d_DotBook_wipe_1 ?_
  refine dz_iconst x.1 d_DotBook_wipe_4 ?_
  refine dz_puti x.1 (ly_Typed b) fl_DotBook_62 fp_Typed_1 d_DotBook_wipe_5 ?_
  exact ly_vret x d_DotBook_wipe_8 ⟨rfl, CI.txt (sp_fr.rf.up (Or.inl rfl)) sp_T_0, sp_fr.rf.up (show b + 1 < b + 130 by omega)⟩
set_option maxRecDepth 100000 in
set_option maxHeartbeats 4000000 in
theorem c_DotBook_rules (l : Launch) (hst9 : l.stackTraces = false) (D : va_G) (Dt : Nat → ClassId) (b sz : Nat) (I : dz_Hp) (W T n : Int) (g : Int → Int) (c : Nat) (S : Nat → sp_Ru) (w : Int) (nb : Nat) (Bk : Nat → sp_Bk) (H : List Int) (CI : sp_CL b I W T n g c S w nb Bk H) (a : Bool) (X : Int × Nat × (Nat → sp_Ru)) (hX : X = sp_tk g n (n + 1).toNat 0 0 0 (-1) c S) : ly_CX l D Dt b sz y_DotBook_rules b_DotBook_rules 2 (some .int) 9 [.ref (b + 0), .int (dz_i (if a = true then 1 else 0))] I (fun v I' => v = some (.int (dz_i (X.2.1 : Int))) ∧ (X.1 = -1 ∨ a = true) ∧ sp_CL b I' W T 0 (fun _ => 0) X.2.1 X.2.2 X.1 nb Bk H ∧ sp_fr I I' (fun q => q < b + 130)) (fun E I' => E = xc_IAE ∧ ¬ (X.1 = -1 ∨ a = true) ∧ sp_CL b I' W T n g c S X.1 nb Bk H ∧ sp_fr I I' (fun q => q < b + 130)) := by
  refine ly_enterX hst9 R_DotBook (by decide) rfl (Nat.le_of_ble_eq_true rfl) (ly_cat _ 0 rfl) (fun κ x => ?_)
  have hN := ly_NX x
  obtain ⟨⟨hW, hT⟩, TI, RI, hw1, KI, hnb, HB, HP, HI⟩ := id CI
  have hn9 := TI.nn
  have hc24 := RI.2.1
  have hbs := sp_bs_rng hW hT.1 nb (fun i hi => (HB i hi).2.2.2.2)
  have hHl := HI.2.1
  have hxw := sp_tk_w (g := g) (n := n) (n + 1).toNat 0 0 0 (-1) c S (by omega) (by omega) (by omega)
  rw [← hX] at hxw
  show ly_V κ b sz I 0 [(0, .ref (b + 0)), (1, .int (dz_i (if a = true then 1 else 0)))] []
  refine dz_aload_n x.1 0 d_DotBook_rules_0 rfl rfl ?_
  refine dz_getr x.1 (ly_DotBook b) fl_DotBook_19 (lr_DotBook_1 b) d_DotBook_rules_1 ?_
  refine dz_aload_n x.1 0 d_DotBook_rules_4 rfl rfl ?_
  refine dz_getr x.1 (ly_DotBook b) fl_DotBook_12 (lr_DotBook_0 b) d_DotBook_rules_5 ?_
  refine dz_iload_n x.1 1 d_DotBook_rules_8 rfl rfl ?_
  refine ly_callVX (rest := []) x cl_DotBook_73 (c_RuleList_take l D Dt b sz I n g TI c S RI a X hX) (by decide) (ly_RuleList b) rfl rfl rfl rfl (Nat.le_of_ble_eq_true rfl) d_DotBook_rules_9 (fun v J hp9 => ?_)
  obtain ⟨rfl, hF, hw, hok, hno⟩ := hp9
  show ly_V κ b sz J 12 [(0, .ref (b + 0)), (1, .int (dz_i (if a = true then 1 else 0)))] [.int (dz_i (if X.1 = -1 ∨ a = true then 1 else 0))]
  refine dz_if_ne (tgt := 23) x.1 d_DotBook_rules_12 (by decide) (dz_br _) (fun hc12 => ?_) (fun hc12 => ?_)
  · have hc12 : X.1 = -1 ∨ a = true := dz_bt hc12
    refine dz_aload_n x.1 0 d_DotBook_rules_23 rfl rfl ?_
    refine dz_getr x.1 (ly_DotBook b) fl_DotBook_12 (lr_DotBook_0 b) d_DotBook_rules_24 ?_
    refine dz_iconst x.1 d_DotBook_rules_27 ?_
    refine dz_puti x.1 (ly_Typed b) fl_DotBook_62 fp_Typed_1 d_DotBook_rules_28 ?_
    refine dz_aload_n x.1 0 d_DotBook_rules_31 rfl rfl ?_
    refine dz_getr x.1 (ly_DotBook b) fl_DotBook_19 (lr_DotBook_1 b) d_DotBook_rules_32 ?_
    refine dz_geti (z := (X.2.1 : Int)) x.1 (ly_RuleList b) fl_DotBook_77 d_DotBook_rules_35 (by rw [dz_up_n _ _ _ (by omega)]; exact (hok hc12).1) ?_
    exact ly_iretX x d_DotBook_rules_38 rfl ⟨rfl, hc12, (CI.rul hF (hok hc12) ⟨hw, by omega⟩).txt (sp_fr.rf.up (Or.inl rfl)) sp_T_0, (hF.mono (fun q h => by rcases h with h | h <;> omega)).up (show b + 1 < b + 130 by omega)⟩
  · have hc12 : ¬ (X.1 = -1 ∨ a = true) := dz_bf hc12
    exact ly_IAE x (by decide) d_DotBook_rules_15 d_DotBook_rules_18 d_DotBook_rules_19 d_DotBook_rules_22 ⟨rfl, hc12, CI.rul hF (hno hc12) ⟨hw, by omega⟩, (hF.mono (fun q h => by rcases h with h | h <;> omega))⟩
set_option maxRecDepth 100000 in
set_option maxHeartbeats 4000000 in
theorem c_DotBook_wrong (l : Launch) (D : va_G) (Dt : Nat → ClassId) (b sz : Nat) (I : dz_Hp) (W T n : Int) (g : Int → Int) (c : Nat) (S : Nat → sp_Ru) (w : Int) (nb : Nat) (Bk : Nat → sp_Bk) (H : List Int) (CI : sp_CL b I W T n g c S w nb Bk H)  : ly_M l D Dt b sz y_DotBook_wrong b_DotBook_wrong 1 (some .int) 1 [.ref (b + 0)] I (fun v I' => v = some (.int (dz_i w)) ∧ I' = I) := by
  refine ly_enter R_DotBook (by decide) rfl (Nat.le_of_ble_eq_true rfl) (ly_cat _ 0 rfl) (fun κ x => ?_)
  have hN := ly_N x
  obtain ⟨⟨hW, hT⟩, TI, RI, hw1, KI, hnb, HB, HP, HI⟩ := id CI
  have hn9 := TI.nn
  have hc24 := RI.2.1
  have hbs := sp_bs_rng hW hT.1 nb (fun i hi => (HB i hi).2.2.2.2)
  have hHl := HI.2.1
  show ly_V κ b sz I 0 [(0, .ref (b + 0))] []
  refine dz_aload_n x.1 0 d_DotBook_wrong_0 rfl rfl ?_
  refine dz_getr x.1 (ly_DotBook b) fl_DotBook_19 (lr_DotBook_1 b) d_DotBook_wrong_1 ?_
  refine dz_geti (z := w) x.1 (ly_RuleList b) fl_DotBook_78 d_DotBook_wrong_4 hw1.1 ?_
  exact ly_iret x d_DotBook_wrong_7 rfl ⟨rfl, rfl⟩
set_option maxRecDepth 100000 in
set_option maxHeartbeats 4000000 in
theorem c_DotBook_pages (l : Launch) (D : va_G) (Dt : Nat → ClassId) (b sz : Nat) (I : dz_Hp) (W T n : Int) (g : Int → Int) (c : Nat) (S : Nat → sp_Ru) (w : Int) (nb : Nat) (Bk : Nat → sp_Bk) (H : List Int) (CI : sp_CL b I W T n g c S w nb Bk H)  : ly_M l D Dt b sz y_DotBook_pages b_DotBook_pages 1 (some .int) 1 [.ref (b + 0)] I (fun v I' => v = some (.int (dz_i (sp_bs W T Bk nb).2.2)) ∧ I' = I) := by
  refine ly_enter R_DotBook (by decide) rfl (Nat.le_of_ble_eq_true rfl) (ly_cat _ 0 rfl) (fun κ x => ?_)
  have hN := ly_N x
  obtain ⟨⟨hW, hT⟩, TI, RI, hw1, KI, hnb, HB, HP, HI⟩ := id CI
  have hn9 := TI.nn
  have hc24 := RI.2.1
  have hbs := sp_bs_rng hW hT.1 nb (fun i hi => (HB i hi).2.2.2.2)
  have hHl := HI.2.1
  show ly_V κ b sz I 0 [(0, .ref (b + 0))] []
  refine dz_aload_n x.1 0 d_DotBook_pages_0 rfl rfl ?_
  refine dz_getr x.1 (ly_DotBook b) fl_DotBook_55 (lr_DotBook_4 b) d_DotBook_pages_1 ?_
  refine dz_geti (z := (sp_bs W T Bk nb).2.2) x.1 (ly_Book b) fl_DotBook_119 d_DotBook_pages_4 KI.2.2.2.2.2.2 ?_
  exact ly_iret x d_DotBook_pages_7 rfl ⟨rfl, rfl⟩
set_option maxRecDepth 100000 in
set_option maxHeartbeats 4000000 in
theorem c_DotBook_heard (l : Launch) (D : va_G) (Dt : Nat → ClassId) (b sz : Nat) (I : dz_Hp) (W T n : Int) (g : Int → Int) (c : Nat) (S : Nat → sp_Ru) (w : Int) (nb : Nat) (Bk : Nat → sp_Bk) (H : List Int) (CI : sp_CL b I W T n g c S w nb Bk H) (q : Int) (hq : -2147483648 ≤ q ∧ q < 2147483648) : ly_M l D Dt b sz y_DotBook_heard b_DotBook_heard 2 (some .char) 1 [.ref (b + 0), .int (dz_i q)] I (fun v I' => v = some (.int (dz_i (if 0 ≤ q ∧ q < (H.length : Int) then H.getD q.toNat 0 else 32))) ∧ I' = I) := by
  refine ly_enter R_DotBook (by decide) rfl (Nat.le_of_ble_eq_true rfl) (ly_cat _ 0 rfl) (fun κ x => ?_)
  have hN := ly_N x
  obtain ⟨⟨hW, hT⟩, TI, RI, hw1, KI, hnb, HB, HP, HI⟩ := id CI
  have hn9 := TI.nn
  have hc24 := RI.2.1
  have hbs := sp_bs_rng hW hT.1 nb (fun i hi => (HB i hi).2.2.2.2)
  have hHl := HI.2.1
  show ly_V κ b sz I 0 [(0, .ref (b + 0)), (1, .int (dz_i q))] []
  refine dz_iload_n x.1 1 d_DotBook_heard_0 rfl rfl ?_
  refine dz_if_lt (tgt := 27) x.1 d_DotBook_heard_1 (by decide) (by omega) (fun hc1 => ?_) (fun hc1 => ?_)
  · refine dz_bipush x.1 d_DotBook_heard_27 (by decide) ?_
    have hv9 : (if 0 ≤ q ∧ q < (H.length : Int) then H.getD q.toNat 0 else 32) = 32 := by rw [if_neg (by omega)]
    exact ly_iret x d_DotBook_heard_29 (dz_nch (by omega)) ⟨by rw [hv9], rfl⟩
  · refine dz_iload_n x.1 1 d_DotBook_heard_4 rfl rfl ?_
    refine dz_aload_n x.1 0 d_DotBook_heard_5 rfl rfl ?_
    refine dz_getr x.1 (ly_DotBook b) fl_DotBook_37 (lr_DotBook_3 b) d_DotBook_heard_6 ?_
    refine dz_geti (z := (H.length : Int)) x.1 (ly_Reader b) fl_DotBook_114 d_DotBook_heard_9 HI.1 ?_
    refine dz_icmp_ge (tgt := 27) x.1 d_DotBook_heard_12 (by decide) (by omega) (by omega) (fun hc12 => ?_) (fun hc12 => ?_)
    · refine dz_bipush x.1 d_DotBook_heard_27 (by decide) ?_
      have hv9 : (if 0 ≤ q ∧ q < (H.length : Int) then H.getD q.toNat 0 else 32) = 32 := by rw [if_neg (by omega)]
      exact ly_iret x d_DotBook_heard_29 (dz_nch (by omega)) ⟨by rw [hv9], rfl⟩
    · have hql : q.toNat < H.length := by omega
      have hqe : H[q.toNat]? = some (H.getD q.toNat 0) := by rw [List.getD_eq_getElem?_getD, List.getElem?_eq_getElem hql]; rfl
      have hqr := HI.2.2.2 _ (List.mem_of_getElem? hqe)
      refine dz_aload_n x.1 0 d_DotBook_heard_15 rfl rfl ?_
      refine dz_getr x.1 (ly_DotBook b) fl_DotBook_37 (lr_DotBook_3 b) d_DotBook_heard_16 ?_
      refine dz_getr x.1 (ly_Reader b) fl_DotBook_115 (lr_Reader_1 b) d_DotBook_heard_19 ?_
      refine dz_iload_n x.1 1 d_DotBook_heard_22 rfl rfl ?_
      refine dz_cald (w := (H.getD q.toNat 0)) x.1 (ly_ReaderRow b) (by decide) (by omega) d_DotBook_heard_23 (by have h9 := HI.2.2.1 q.toNat _ hqe; rw [show ((q.toNat : Nat) : Int) = q by omega] at h9; exact h9) ?_
      refine dz_goto (tgt := 29) x.1 d_DotBook_heard_24 (by decide) ?_
      have hv9 : (if 0 ≤ q ∧ q < (H.length : Int) then H.getD q.toNat 0 else 32) = (H.getD q.toNat 0) := by rw [if_pos (by omega)]
      exact ly_iret x d_DotBook_heard_29 (dz_nch (by omega)) ⟨by rw [hv9], rfl⟩
set_option maxRecDepth 100000 in
set_option maxHeartbeats 4000000 in
theorem c_DotBook_clear (l : Launch) (D : va_G) (Dt : Nat → ClassId) (b sz : Nat) (I : dz_Hp) (W T n : Int) (g : Int → Int) (c : Nat) (S : Nat → sp_Ru) (w : Int) (nb : Nat) (Bk : Nat → sp_Bk) (H : List Int) (CI : sp_CL b I W T n g c S w nb Bk H)  : ly_M l D Dt b sz y_DotBook_clear b_DotBook_clear 1 none 2 [.ref (b + 0)] I (fun v I' => v = none ∧ sp_CL b I' W T n g c S w 0 Bk H ∧ sp_fr I I' (fun q => q < b + 130)) := by
  refine ly_enter R_DotBook (by decide) rfl (Nat.le_of_ble_eq_true rfl) (ly_cat _ 0 rfl) (fun κ x => ?_)
  have hN := ly_N x
  obtain ⟨⟨hW, hT⟩, TI, RI, hw1, KI, hnb, HB, HP, HI⟩ := id CI
  have hn9 := TI.nn
  have hc24 := RI.2.1
  have hbs := sp_bs_rng hW hT.1 nb (fun i hi => (HB i hi).2.2.2.2)
  have hHl := HI.2.1
  show ly_V κ b sz I 0 [(0, .ref (b + 0))] []
  refine dz_aload_n x.1 0 d_DotBook_clear_0 rfl rfl ?_
  refine dz_getr x.1 (ly_DotBook b) fl_DotBook_55 (lr_DotBook_4 b) d_DotBook_clear_1 ?_
  refine ly_callV (rest := []) x cl_DotBook_150 (c_Book_empty l D Dt b sz I W T (nb : Int) _ _ _ KI) (by decide) (ly_Book b) rfl rfl rfl rfl (Nat.le_of_ble_eq_true rfl) d_DotBook_clear_4 (fun v J hp4 => ?_)
  obtain ⟨rfl, hF, hK⟩ := hp4
  show ly_V κ b sz J 7 [(0, .ref (b + 0))] []
  exact ly_vret x d_DotBook_clear_7 ⟨rfl, CI.clr hF hK, hF.mono (fun q h => by have h : _ = _ := h; omega)⟩
