def sp_any (p : Nat → Bool) : Nat → Bool
  | 0 => false
  | k + 1 => sp_any p k || p k
theorem sp_any_t {p : Nat → Bool} {n j : Nat} (h2 : j < n) (h : p j = true) : sp_any p n = true := by
  induction n with
  | zero => omega
  | succ k ih =>
    simp only [sp_any, Bool.or_eq_true]
    by_cases e : j = k
    · right; rw [← e]; exact h
    · left; exact ih (by omega)
theorem sp_any_f {p : Nat → Bool} {n : Nat} (h : ∀ j, j < n → p j = false) : sp_any p n = false := by
  induction n with
  | zero => rfl
  | succ k ih =>
    simp only [sp_any, Bool.or_eq_false_iff]
    exact ⟨ih (fun j hj => h j (by omega)), h k (by omega)⟩
/-- the rules of the class: c of them, S -/
def sp_RC (b : Nat) (J : dz_Hp) (c : Nat) (S : Nat → sp_Ru) : Prop := J (b + 3) 1 = (c : Int) ∧ c ≤ 24 ∧ ∀ r : Nat, r < c → sp_rl b r J (S r) ∧ sp_rwf (S r)
theorem sp_rl.fr {b r : Nat} {I J : dz_Hp} {u : sp_Ru} (h : sp_rl b r I u) (h1 : J (b + (5 + 3 * r)) = I (b + (5 + 3 * r))) (h2 : J (b + (6 + 3 * r)) = I (b + (6 + 3 * r))) (h3 : J (b + (7 + 3 * r)) = I (b + (7 + 3 * r))) : sp_rl b r J u := by unfold sp_rl; rw [h1, h2, h3]; exact h
theorem sp_RC.fr {b : Nat} {I J : dz_Hp} {c : Nat} {S : Nat → sp_Ru} (h : sp_RC b I c S) (h1 : J (b + 3) 1 = I (b + 3) 1) (h2 : ∀ q, b + 5 ≤ q → q < b + 77 → J q = I q) : sp_RC b J c S :=
  ⟨by rw [h1]; exact h.1, h.2.1, fun r hr => ⟨(h.2.2 r hr).1.fr (h2 _ (by omega) (by have := h.2.1; omega)) (h2 _ (by omega) (by have := h.2.1; omega)) (h2 _ (by omega) (by have := h.2.1; omega)), (h.2.2 r hr).2⟩⟩
def sp_set (S : Nat → sp_Ru) (c : Nat) (u : sp_Ru) : Nat → sp_Ru := fun r => if r = c then u else S r
/-- the rule that one text gives, if it is taken -/
def sp_one (g : Int → Int) (c : Nat) (S : Nat → sp_Ru) (f0 t0 : Int) : Option sp_Ru := if 24 ≤ c then none else match sp_parse g f0 t0 with
  | none => none
  | some u => if sp_any (fun r => sp_like (S r) u) c = true then none else some u
/-- all texts: m places left -/
def sp_tk (g : Int → Int) (n : Int) : Nat → Int → Int → Int → Int → Nat → (Nat → sp_Ru) → Int × Nat × (Nat → sp_Ru)
  | 0, _, _, _, w, c, S => (w, c, S)
  | m + 1, i, f0, num, w, c, S => if i = n ∨ g i = 59 then (match sp_one g c S f0 i with
      | none => sp_tk g n m (i + 1) (i + 1) (num + 1) (if w = -1 then num else w) c S
      | some u => sp_tk g n m (i + 1) (i + 1) (num + 1) w (c + 1) (sp_set S c u)) else sp_tk g n m (i + 1) f0 num w c S
theorem sp_tk_pre {g : Int → Int} {n : Int} : ∀ (m : Nat) (i f0 num w : Int) (c : Nat) (S : Nat → sp_Ru), c ≤ (sp_tk g n m i f0 num w c S).2.1 ∧ ∀ r, r < c → (sp_tk g n m i f0 num w c S).2.2 r = S r := by
  intro m
  induction m with
  | zero => intro i f0 num w c S; exact ⟨Nat.le_refl _, fun r _ => rfl⟩
  | succ m ih =>
    intro i f0 num w c S
    simp only [sp_tk]
    split
    · split
      · exact ih _ _ _ _ _ _
      · rename_i u _
        obtain ⟨h1, h2⟩ := ih (i + 1) (i + 1) (num + 1) w (c + 1) (sp_set S c u)
        refine ⟨by omega, fun r hr => ?_⟩
        rw [h2 r (by omega)]
        unfold sp_set; rw [if_neg (by omega)]
    · exact ih _ _ _ _ _ _
set_option maxRecDepth 100000 in
set_option maxHeartbeats 4000000 in
theorem c_RuleList_hasLike (l : Launch) (D : va_G) (Dt : Nat → ClassId) (b sz : Nat) (I : dz_Hp) (c : Nat) (S : Nat → sp_Ru) (RI : sp_RC b I c S) (s : Nat) (hs : s < 24) (w : sp_Ru) (hv : sp_rl b s I w) (hww : sp_rwf w) : ly_M l D Dt b sz y_RuleList_hasLike b_RuleList_hasLike 3 (some .boolean) 2 [.ref (b + 3), .ref (b + (5 + 3 * s))] I (fun v I' => v = some (.int (dz_i (if sp_any (fun r => sp_like (S r) w) c = true then 1 else 0))) ∧ I' = I) := by
  refine ly_enter R_RuleList (by decide) rfl (Nat.le_of_ble_eq_true rfl) (ly_cat _ 0 rfl) (fun κ x => ?_)
  have hN := ly_N x
  have hc24 := RI.2.1
  have loop : ∀ (k : Nat) (i : Nat), (i + k = c) → (∀ j : Nat, j < i → sp_like (S j) w = false) → ly_V κ b sz I 2 [(0, .ref (b + 3)), (1, .ref (b + (5 + 3 * s))), (2, .int (dz_i (i : Int)))] [] := by
    intro k
    induction k with
    | zero =>
      intro i hi hl
      refine dz_iload_n x.1 2 d_RuleList_hasLike_2 rfl rfl ?_
      refine dz_aload_n x.1 0 d_RuleList_hasLike_3 rfl rfl ?_
      refine dz_geti (z := (c : Int)) x.1 (ly_RuleList b) fl_RuleList_22 d_RuleList_hasLike_4 RI.1 ?_
      refine dz_icmp_ge (tgt := 31) x.1 d_RuleList_hasLike_7 (by decide) (by omega) (by omega) (fun hc7 => ?_) (fun hc7 => by exfalso; omega)
      refine dz_iconst x.1 d_RuleList_hasLike_31 ?_
      exact ly_iret x d_RuleList_hasLike_32 (dz_nbo (by omega)) ⟨by rw [sp_bf (sp_any_f (fun j h => hl j (by omega)))], rfl⟩
    | succ k ih =>
      intro i hi hl
      have hi9 : i < 24 := by omega
      refine dz_iload_n x.1 2 d_RuleList_hasLike_2 rfl rfl ?_
      refine dz_aload_n x.1 0 d_RuleList_hasLike_3 rfl rfl ?_
      refine dz_geti (z := (c : Int)) x.1 (ly_RuleList b) fl_RuleList_22 d_RuleList_hasLike_4 RI.1 ?_
      refine dz_icmp_ge (tgt := 31) x.1 d_RuleList_hasLike_7 (by decide) (by omega) (by omega) (fun hc7 => by exfalso; omega) (fun hc7 => ?_)
      refine dz_aload_n x.1 0 d_RuleList_hasLike_10 rfl rfl ?_
      refine dz_getr x.1 (ly_RuleList b) fl_RuleList_11 (lr_RuleList_0 b) d_RuleList_hasLike_11 ?_
      refine dz_iload_n x.1 2 d_RuleList_hasLike_14 rfl rfl ?_
      refine dz_aald3 x.1 (ly_RuleArr b) (by decide) (by omega) (lr_RuleArr b hi9) d_RuleList_hasLike_15 ?_
      refine dz_aload_n x.1 1 d_RuleList_hasLike_16 rfl rfl ?_
      refine ly_callV (rest := []) x cl_RuleList_43 (c_Rule_isLike l D Dt b sz I i hi9 (S i) (RI.2.2 i (by omega)).1 (RI.2.2 i (by omega)).2 s hs w hv hww) (by decide) (ly_Rule b hi9) rfl rfl rfl rfl (Nat.le_of_ble_eq_true rfl) d_RuleList_hasLike_17 (fun v I' hp17 => ?_)
      obtain ⟨rfl, hp17I⟩ := hp17
      have hp17I := hp17I.symm
      subst hp17I
      show ly_V κ b sz I 20 [(0, .ref (b + 3)), (1, .ref (b + (5 + 3 * s))), (2, .int (dz_i (i : Int)))] [.int (dz_i (if sp_like (S i) w = true then 1 else 0))]
      refine dz_if_eq (tgt := 25) x.1 d_RuleList_hasLike_20 (by decide) (dz_br _) (fun hc20 => ?_) (fun hc20 => ?_)
      · have hc20 : ¬ (sp_like (S i) w = true) := dz_bf hc20
        refine dz_iinc (z := (i : Int) + 1) (ls' := [(0, .ref (b + 3)), (1, .ref (b + (5 + 3 * s))), (2, .int (dz_i ((i : Int) + 1)))]) x.1 2 d_RuleList_hasLike_25 rfl hN (by decide) (by omega) rfl ?_
        refine dz_goto (tgt := 2) x.1 d_RuleList_hasLike_28 (by decide) ?_
        exact ih (i + 1) (by omega) (fun j h => by
                by_cases e : j = i
                · rw [e]; exact Bool.eq_false_iff.mpr hc20
                · exact hl j (by omega))
      · have hc20 : sp_like (S i) w = true := dz_bt hc20
        refine dz_iconst x.1 d_RuleList_hasLike_23 ?_
        exact ly_iret x d_RuleList_hasLike_24 (dz_nbo (by omega)) ⟨by rw [sp_bt (sp_any_t (j := i) (by omega) hc20)], rfl⟩
  show ly_V κ b sz I 0 [(0, .ref (b + 3)), (1, .ref (b + (5 + 3 * s)))] []
  refine dz_iconst x.1 d_RuleList_hasLike_0 ?_
  refine dz_istore_n (ls' := [(0, .ref (b + 3)), (1, .ref (b + (5 + 3 * s))), (2, .int (dz_i 0))]) x.1 d_RuleList_hasLike_1 rfl hN (by decide) rfl ?_
  exact loop c 0 (by omega) (fun j h => by omega)
set_option maxRecDepth 100000 in
set_option maxHeartbeats 4000000 in
theorem c_RuleList_takeOne (l : Launch) (D : va_G) (Dt : Nat → ClassId) (b sz : Nat) (I : dz_Hp) (n : Int) (g : Int → Int) (TI : sp_T b I n g) (c : Nat) (S : Nat → sp_Ru) (RI : sp_RC b I c S) (f0 t0 : Int) (hf : 0 ≤ f0 ∧ f0 < 200) (ht : 0 ≤ t0 ∧ t0 < 200) : ly_M l D Dt b sz y_RuleList_takeOne b_RuleList_takeOne 5 (some .boolean) 6 [.ref (b + 3), .ref (b + 1), .int (dz_i f0), .int (dz_i t0)] I (fun v I' => v = some (.int (dz_i (if (sp_one g c S f0 t0).isSome = true then 1 else 0))) ∧ sp_fr I I' (fun q => q = b + 3 ∨ (b + 5 ≤ q ∧ q < b + 77)) ∧ I' (b + 3) 2 = I (b + 3) 2 ∧ (sp_one g c S f0 t0 = none → sp_RC b I' c S) ∧ ∀ u, sp_one g c S f0 t0 = some u → sp_RC b I' (c + 1) (sp_set S c u)) := by
  refine ly_enter R_RuleList (by decide) rfl (Nat.le_of_ble_eq_true rfl) (ly_cat _ 0 rfl) (fun κ x => ?_)
  have hN := ly_N x
  have hc24 := RI.2.1
  show ly_V κ b sz I 0 [(0, .ref (b + 3)), (1, .ref (b + 1)), (2, .int (dz_i f0)), (3, .int (dz_i t0))] []
  refine dz_aload_n x.1 0 d_RuleList_takeOne_0 rfl rfl ?_
  refine dz_geti (z := (c : Int)) x.1 (ly_RuleList b) fl_RuleList_22 d_RuleList_takeOne_1 RI.1 ?_
  refine dz_aload_n x.1 0 d_RuleList_takeOne_4 rfl rfl ?_
  refine dz_getr x.1 (ly_RuleList b) fl_RuleList_11 (lr_RuleList_0 b) d_RuleList_takeOne_5 ?_
  refine dz_alen x.1 (ly_RuleArr b) (by decide) d_RuleList_takeOne_8 ?_
  show ly_V κ b sz I 9 [(0, .ref (b + 3)), (1, .ref (b + 1)), (2, .int (dz_i f0)), (3, .int (dz_i t0))] [.int (dz_i 24), .int (dz_i (c : Int))]
  refine dz_icmp_lt (tgt := 14) x.1 d_RuleList_takeOne_9 (by decide) (by omega) (by omega) (fun hc9 => ?_) (fun hc9 => ?_)
  · have hc9 : c < 24 := by omega
    refine dz_aload_n x.1 0 d_RuleList_takeOne_14 rfl rfl ?_
    refine dz_getr x.1 (ly_RuleList b) fl_RuleList_11 (lr_RuleList_0 b) d_RuleList_takeOne_15 ?_
    refine dz_aload_n x.1 0 d_RuleList_takeOne_18 rfl rfl ?_
    refine dz_geti (z := (c : Int)) x.1 (ly_RuleList b) fl_RuleList_22 d_RuleList_takeOne_19 RI.1 ?_
    refine dz_aald3 x.1 (ly_RuleArr b) (by decide) (by omega) (lr_RuleArr b hc9) d_RuleList_takeOne_22 ?_
    refine dz_astore (ls' := [(0, .ref (b + 3)), (1, .ref (b + 1)), (2, .int (dz_i f0)), (3, .int (dz_i t0)), (4, .ref (b + (5 + 3 * c)))]) x.1 d_RuleList_takeOne_23 hN (by decide) rfl ?_
    refine dz_aload x.1 4 d_RuleList_takeOne_25 rfl ?_
    refine dz_aload_n x.1 1 d_RuleList_takeOne_27 rfl rfl ?_
    refine dz_iload_n x.1 2 d_RuleList_takeOne_28 rfl rfl ?_
    refine dz_iload_n x.1 3 d_RuleList_takeOne_29 rfl rfl ?_
    refine ly_callV (rest := []) x cl_RuleList_36 (c_Rule_readFrom l D Dt b sz I c hc9 n g TI f0 t0 hf ht) (by decide) (ly_Rule b hc9) rfl rfl rfl rfl (Nat.le_of_ble_eq_true rfl) d_RuleList_takeOne_30 (fun v J hp30 => ?_)
    obtain ⟨rfl, hF1, hP1⟩ := hp30
    have RJ : sp_RC b J c S := ⟨by rw [hF1 _ (fun h => by rcases h with h | h | h <;> omega)]; exact RI.1, RI.2.1, fun r hr => ⟨(RI.2.2 r hr).1.fr (hF1 _ (fun h => by rcases h with h | h | h <;> omega)) (hF1 _ (fun h => by rcases h with h | h | h <;> omega)) (hF1 _ (fun h => by rcases h with h | h | h <;> omega)), (RI.2.2 r hr).2⟩⟩
    show ly_V κ b sz J 33 [(0, .ref (b + 3)), (1, .ref (b + 1)), (2, .int (dz_i f0)), (3, .int (dz_i t0)), (4, .ref (b + (5 + 3 * c)))] [.int (dz_i (if (sp_parse g f0 t0).isSome = true then 1 else 0))]
    refine dz_if_eq (tgt := 45) x.1 d_RuleList_takeOne_33 (by decide) (dz_br _) (fun hc33 => ?_) (fun hc33 => ?_)
    · have hc33 : ¬ ((sp_parse g f0 t0).isSome = true) := dz_bf hc33
      refine dz_iconst x.1 d_RuleList_takeOne_45 ?_
      have hN9 : sp_one g c S f0 t0 = none := by
        unfold sp_one; rw [if_neg (by omega)]
        first | rw [Option.not_isSome_iff_eq_none.mp hc33] | (rw [hu9]; exact if_pos hc42)
      exact ly_iret x d_RuleList_takeOne_46 (dz_nbo (by omega)) ⟨by rw [hN9]; rfl, ((sp_fr.rf (P := (fun q => q = b + 3 ∨ (b + 5 ≤ q ∧ q < b + 77)))).tr hF1 (fun q h => Or.inr (by rcases h with h | h | h <;> omega))), by rw [hF1 _ (fun h => by rcases h with h | h | h <;> omega)], fun _ => RJ, fun u h => by rw [hN9] at h; cases h⟩
    · have hc33 : (sp_parse g f0 t0).isSome = true := dz_bt hc33
      obtain ⟨u9, hu9⟩ := Option.isSome_iff_exists.mp hc33
      refine dz_aload_n x.1 0 d_RuleList_takeOne_36 rfl rfl ?_
      refine dz_aload x.1 4 d_RuleList_takeOne_37 rfl ?_
      refine ly_callV (rest := []) x cl_RuleList_39 (c_RuleList_hasLike l D Dt b sz J c S RJ c hc9 u9 (hP1 _ hu9) (sp_parse_wf hu9)) (by decide) (ly_RuleList b) rfl rfl rfl rfl (Nat.le_of_ble_eq_true rfl) d_RuleList_takeOne_39 (fun v I' hp39 => ?_)
      obtain ⟨rfl, hp39I⟩ := hp39
      have hp39I := hp39I.symm
      subst hp39I
      show ly_V κ b sz J 42 [(0, .ref (b + 3)), (1, .ref (b + 1)), (2, .int (dz_i f0)), (3, .int (dz_i t0)), (4, .ref (b + (5 + 3 * c)))] [.int (dz_i (if sp_any (fun r => sp_like (S r) u9) c = true then 1 else 0))]
      refine dz_if_eq (tgt := 47) x.1 d_RuleList_takeOne_42 (by decide) (dz_br _) (fun hc42 => ?_) (fun hc42 => ?_)
      · have hc42 : ¬ (sp_any (fun r => sp_like (S r) u9) c = true) := dz_bf hc42
        refine dz_aload_n x.1 0 d_RuleList_takeOne_47 rfl rfl ?_
        refine dz_dup x.1 d_RuleList_takeOne_48 rfl ?_
        refine dz_geti (z := (c : Int)) x.1 (ly_RuleList b) fl_RuleList_22 d_RuleList_takeOne_49 RJ.1 ?_
        refine dz_iconst x.1 d_RuleList_takeOne_52 ?_
        refine dz_iadd (z := (c : Int) + 1) x.1 d_RuleList_takeOne_53 (by omega) ?_
        refine dz_puti x.1 (ly_RuleList b) fl_RuleList_22 fp_RuleList_1 d_RuleList_takeOne_54 ?_
        refine dz_iconst x.1 d_RuleList_takeOne_57 ?_
        have hN9 : sp_one g c S f0 t0 = some u9 := by unfold sp_one; rw [if_neg (by omega), hu9]; exact if_neg hc42
        exact ly_iret x d_RuleList_takeOne_58 (dz_nbo (by omega)) ⟨by rw [hN9]; rfl, ((sp_fr.rf (P := (fun q => q = b + 3 ∨ (b + 5 ≤ q ∧ q < b + 77)))).tr hF1 (fun q h => Or.inr (by rcases h with h | h | h <;> omega))).up (Or.inl rfl), by rw [dz_up_k _ _ _ (by decide), hF1 _ (fun h => by rcases h with h | h | h <;> omega)], fun h => (by rw [hN9] at h; cases h), fun u h => by
                  rw [hN9] at h; cases h
                  refine ⟨by rw [dz_up_s]; omega, by omega, fun r hr => ?_⟩
                  by_cases e : r = c
                  · subst e
                    have e2 : sp_set S r u9 r = u9 := if_pos rfl
                    rw [e2]
                    exact ⟨(hP1 _ hu9).fr (by (repeat rw [dz_up_n _ _ _ (by omega)])) (by (repeat rw [dz_up_n _ _ _ (by omega)])) (by (repeat rw [dz_up_n _ _ _ (by omega)])), sp_parse_wf hu9⟩
                  · have e2 : sp_set S c u9 r = S r := if_neg e
                    rw [e2]
                    exact ⟨(RJ.2.2 r (by omega)).1.fr (by (repeat rw [dz_up_n _ _ _ (by omega)])) (by (repeat rw [dz_up_n _ _ _ (by omega)])) (by (repeat rw [dz_up_n _ _ _ (by omega)])), (RJ.2.2 r (by omega)).2⟩⟩
      · have hc42 : sp_any (fun r => sp_like (S r) u9) c = true := dz_bt hc42
        refine dz_iconst x.1 d_RuleList_takeOne_45 ?_
        have hN9 : sp_one g c S f0 t0 = none := by
          unfold sp_one; rw [if_neg (by omega)]
          first | rw [Option.not_isSome_iff_eq_none.mp hc33] | (rw [hu9]; exact if_pos hc42)
        exact ly_iret x d_RuleList_takeOne_46 (dz_nbo (by omega)) ⟨by rw [hN9]; rfl, ((sp_fr.rf (P := (fun q => q = b + 3 ∨ (b + 5 ≤ q ∧ q < b + 77)))).tr hF1 (fun q h => Or.inr (by rcases h with h | h | h <;> omega))), by rw [hF1 _ (fun h => by rcases h with h | h | h <;> omega)], fun _ => RJ, fun u h => by rw [hN9] at h; cases h⟩
  · refine dz_iconst x.1 d_RuleList_takeOne_12 ?_
    have hN9 : sp_one g c S f0 t0 = none := by unfold sp_one; rw [if_pos (by omega)]
    exact ly_iret x d_RuleList_takeOne_13 (dz_nbo (by omega)) ⟨by rw [hN9]; rfl, sp_fr.rf, rfl, fun _ => RI, fun u h => by rw [hN9] at h; cases h⟩
set_option maxRecDepth 100000 in
set_option maxHeartbeats 4000000 in
theorem c_RuleList_take (l : Launch) (D : va_G) (Dt : Nat → ClassId) (b sz : Nat) (I : dz_Hp) (n : Int) (g : Int → Int) (TI : sp_T b I n g) (c : Nat) (S : Nat → sp_Ru) (RI : sp_RC b I c S) (a : Bool) (X : Int × Nat × (Nat → sp_Ru)) (hX : X = sp_tk g n (n + 1).toNat 0 0 0 (-1) c S) : ly_M l D Dt b sz y_RuleList_take b_RuleList_take 7 (some .boolean) 7 [.ref (b + 3), .ref (b + 1), .int (dz_i (if a = true then 1 else 0))] I (fun v I' => v = some (.int (dz_i (if ((X).1 = -1 ∨ a = true) then 1 else 0))) ∧ sp_fr I I' (fun q => q = b + 3 ∨ (b + 5 ≤ q ∧ q < b + 77)) ∧ I' (b + 3) 2 = (X).1 ∧ (((X).1 = -1 ∨ a = true) → sp_RC b I' (X).2.1 (X).2.2) ∧ (¬ ((X).1 = -1 ∨ a = true) → sp_RC b I' c S)) := by
  refine ly_enter R_RuleList (by decide) rfl (Nat.le_of_ble_eq_true rfl) (ly_cat _ 0 rfl) (fun κ x => ?_)
  have hN := ly_N x
  have hn9 := TI.nn
  have hc24 := RI.2.1
  have loop : ∀ (k : Nat) (i f0 num w : Int) (c1 : Nat) (S1 : Nat → sp_Ru) (J : dz_Hp), (0 ≤ i ∧ i + (k : Int) = n + 1) → (0 ≤ f0 ∧ f0 ≤ i) → (0 ≤ num ∧ num ≤ i) → (-1 ≤ w ∧ w ≤ 100) → (sp_fr I J (fun q => q = b + 3 ∨ (b + 5 ≤ q ∧ q < b + 77))) → (J (b + 3) 2 = w) → (sp_RC b J c1 S1) → (sp_tk g n k i f0 num w c1 S1 = X) → ly_V κ b sz J 19 [(0, .ref (b + 3)), (1, .ref (b + 1)), (2, .int (dz_i (if a = true then 1 else 0))), (3, .int (dz_i (c : Int))), (4, .int (dz_i f0)), (5, .int (dz_i num)), (6, .int (dz_i i))] [] := by
    intro k
    induction k with
    | zero =>
      intro i f0 num w c1 S1 J hi hf hnu hw9 hF hW hR hS
      have TJ : sp_T b J n g := TI.fr (hF _ (fun h => by rcases h with h | h <;> omega)) (hF _ (fun h => by rcases h with h | h <;> omega))
      refine dz_iload x.1 6 d_RuleList_take_19 rfl ?_
      refine dz_aload_n x.1 1 d_RuleList_take_21 rfl rfl ?_
      refine dz_geti (z := n) x.1 (ly_Typed b) fl_RuleList_25 d_RuleList_take_22 TJ.1 ?_
      refine dz_icmp_gt (tgt := 89) x.1 d_RuleList_take_25 (by decide) (by omega) (by omega) (fun hc25 => ?_) (fun hc25 => by exfalso; omega)
      refine dz_aload_n x.1 0 d_RuleList_take_89 rfl rfl ?_
      refine dz_geti (z := w) x.1 (ly_RuleList b) fl_RuleList_17 d_RuleList_take_90 hW ?_
      refine dz_iconst x.1 d_RuleList_take_93 ?_
      refine dz_icmp_eq (tgt := 101) x.1 d_RuleList_take_94 (by decide) (by omega) (by omega) (fun hc94 => ?_) (fun hc94 => ?_)
      · refine dz_iconst x.1 d_RuleList_take_101 ?_
        have hX1 : X = (w, c1, S1) := hS.symm
        exact ly_iret x d_RuleList_take_102 (dz_nbo (by omega)) ⟨by rw [hX1, if_pos (by first | exact Or.inl (by omega) | exact Or.inr hc98)], hF, by rw [hX1]; exact hW, fun _ => by rw [hX1]; exact hR, fun h => absurd (by rw [hX1]; first | exact Or.inl (by show w = -1; omega) | exact Or.inr hc98) h⟩
      · refine dz_iload_n x.1 2 d_RuleList_take_97 rfl rfl ?_
        refine dz_if_eq (tgt := 103) x.1 d_RuleList_take_98 (by decide) (dz_br _) (fun hc98 => ?_) (fun hc98 => ?_)
        · have hc98 : ¬ (a = true) := dz_bf hc98
          have hpre : c ≤ c1 ∧ ∀ r, r < c → S1 r = S r := by
            have h5 := sp_tk_pre (g := g) (n := n) (n + 1).toNat 0 0 0 (-1) c S
            rw [← hX, ← hS] at h5
            exact h5
          refine dz_aload_n x.1 0 d_RuleList_take_103 rfl rfl ?_
          refine dz_iload_n x.1 3 d_RuleList_take_104 rfl rfl ?_
          refine dz_puti x.1 (ly_RuleList b) fl_RuleList_22 fp_RuleList_1 d_RuleList_take_105 ?_
          refine dz_iconst x.1 d_RuleList_take_108 ?_
          have hX1 : X = (w, c1, S1) := hS.symm
          exact ly_iret x d_RuleList_take_109 (dz_nbo (by omega)) ⟨by rw [hX1, if_neg (by intro h; rcases h with h | h; exact hc94 h; exact hc98 h)], hF.up (Or.inl rfl), by rw [hX1, dz_up_k _ _ _ (by decide)]; exact hW, fun h => by rw [hX1] at h; rcases h with h | h; exact absurd h hc94; exact absurd h hc98, fun _ => ⟨dz_up_s _ _ _ _, hc24, fun r hr => ⟨(by have h5 := (hR.2.2 r (by have := hpre.1; omega)).1; rw [hpre.2 r hr] at h5; exact h5.fr (by (repeat rw [dz_up_n _ _ _ (by omega)])) (by (repeat rw [dz_up_n _ _ _ (by omega)])) (by (repeat rw [dz_up_n _ _ _ (by omega)]))), by have h5 := (hR.2.2 r (by have := hpre.1; omega)).2; rw [hpre.2 r hr] at h5; exact h5⟩⟩⟩
        · have hc98 : a = true := dz_bt hc98
          refine dz_iconst x.1 d_RuleList_take_101 ?_
          have hX1 : X = (w, c1, S1) := hS.symm
          exact ly_iret x d_RuleList_take_102 (dz_nbo (by omega)) ⟨by rw [hX1, if_pos (by first | exact Or.inl (by omega) | exact Or.inr hc98)], hF, by rw [hX1]; exact hW, fun _ => by rw [hX1]; exact hR, fun h => absurd (by rw [hX1]; first | exact Or.inl (by show w = -1; omega) | exact Or.inr hc98) h⟩
    | succ k ih =>
      intro i f0 num w c1 S1 J hi hf hnu hw9 hF hW hR hS
      have TJ : sp_T b J n g := TI.fr (hF _ (fun h => by rcases h with h | h <;> omega)) (hF _ (fun h => by rcases h with h | h <;> omega))
      refine dz_iload x.1 6 d_RuleList_take_19 rfl ?_
      refine dz_aload_n x.1 1 d_RuleList_take_21 rfl rfl ?_
      refine dz_geti (z := n) x.1 (ly_Typed b) fl_RuleList_25 d_RuleList_take_22 TJ.1 ?_
      refine dz_icmp_gt (tgt := 89) x.1 d_RuleList_take_25 (by decide) (by omega) (by omega) (fun hc25 => by exfalso; omega) (fun hc25 => ?_)
      refine dz_iload x.1 6 d_RuleList_take_28 rfl ?_
      refine dz_aload_n x.1 1 d_RuleList_take_30 rfl rfl ?_
      refine dz_geti (z := n) x.1 (ly_Typed b) fl_RuleList_25 d_RuleList_take_31 TJ.1 ?_
      refine dz_icmp_eq (tgt := 48) x.1 d_RuleList_take_34 (by decide) (by omega) (by omega) (fun hc34 => ?_) (fun hc34 => ?_)
      · refine dz_aload_n x.1 0 d_RuleList_take_48 rfl rfl ?_
        refine dz_aload_n x.1 1 d_RuleList_take_49 rfl rfl ?_
        refine dz_iload x.1 4 d_RuleList_take_50 rfl ?_
        refine dz_iload x.1 6 d_RuleList_take_52 rfl ?_
        refine ly_callV (rest := []) x cl_RuleList_32 (c_RuleList_takeOne l D Dt b sz J n g TJ c1 S1 hR f0 i (by omega) (by omega)) (by decide) (ly_RuleList b) rfl rfl rfl rfl (Nat.le_of_ble_eq_true rfl) d_RuleList_take_54 (fun v J2 hp54 => ?_)
        obtain ⟨rfl, hF2, hW2, hn2, hs2⟩ := hp54
        show ly_V κ b sz J2 57 [(0, .ref (b + 3)), (1, .ref (b + 1)), (2, .int (dz_i (if a = true then 1 else 0))), (3, .int (dz_i (c : Int))), (4, .int (dz_i f0)), (5, .int (dz_i num)), (6, .int (dz_i i))] [.int (dz_i (if (sp_one g c1 S1 f0 i).isSome = true then 1 else 0))]
        refine dz_if_ne (tgt := 74) x.1 d_RuleList_take_57 (by decide) (dz_br _) (fun hc57 => ?_) (fun hc57 => ?_)
        · have hc57 : (sp_one g c1 S1 f0 i).isSome = true := dz_bt hc57
          refine dz_iload x.1 6 d_RuleList_take_74 rfl ?_
          refine dz_iconst x.1 d_RuleList_take_76 ?_
          refine dz_iadd (z := i + 1) x.1 d_RuleList_take_77 (by omega) ?_
          refine dz_istore (ls' := [(0, .ref (b + 3)), (1, .ref (b + 1)), (2, .int (dz_i (if a = true then 1 else 0))), (3, .int (dz_i (c : Int))), (4, .int (dz_i (i + 1))), (5, .int (dz_i num)), (6, .int (dz_i i))]) x.1 d_RuleList_take_78 hN (by decide) rfl ?_
          refine dz_iinc (z := num + 1) (ls' := [(0, .ref (b + 3)), (1, .ref (b + 1)), (2, .int (dz_i (if a = true then 1 else 0))), (3, .int (dz_i (c : Int))), (4, .int (dz_i (i + 1))), (5, .int (dz_i (num + 1))), (6, .int (dz_i i))]) x.1 5 d_RuleList_take_80 rfl hN (by decide) (by omega) rfl ?_
          refine dz_iinc (z := i + 1) (ls' := [(0, .ref (b + 3)), (1, .ref (b + 1)), (2, .int (dz_i (if a = true then 1 else 0))), (3, .int (dz_i (c : Int))), (4, .int (dz_i (i + 1))), (5, .int (dz_i (num + 1))), (6, .int (dz_i (i + 1)))]) x.1 6 d_RuleList_take_83 rfl hN (by decide) (by omega) rfl ?_
          refine dz_goto (tgt := 19) x.1 d_RuleList_take_86 (by decide) ?_
          by_cases h57 : (sp_one g c1 S1 f0 i).isSome = true
          · obtain ⟨u9, hu9⟩ := Option.isSome_iff_exists.mp h57
            exact ih (i + 1) (i + 1) (num + 1) w (c1 + 1) (sp_set S1 c1 u9) J2 (by omega) (by omega) (by omega) hw9 (hF.tr hF2 (fun q h => h)) (hW2.trans hW) (hs2 _ hu9) (by rw [← hS]; simp only [sp_tk]; rw [if_pos (by omega)]; rw [hu9])
          · exact ih (i + 1) (i + 1) (num + 1) w c1 S1 J2 (by omega) (by omega) (by omega) hw9 (hF.tr hF2 (fun q h => h)) (hW2.trans hW) (hn2 (Option.not_isSome_iff_eq_none.mp h57)) (by rw [← hS]; simp only [sp_tk]; rw [if_pos (by omega)]; rw [Option.not_isSome_iff_eq_none.mp h57]; show sp_tk g n k (i + 1) (i + 1) (num + 1) w c1 S1 = sp_tk g n k (i + 1) (i + 1) (num + 1) (if w = -1 then num else w) c1 S1; rw [if_neg (by first | omega | exact absurd hc57 h57)])
        · have hc57 : ¬ ((sp_one g c1 S1 f0 i).isSome = true) := dz_bf hc57
          refine dz_aload_n x.1 0 d_RuleList_take_60 rfl rfl ?_
          refine dz_geti (z := w) x.1 (ly_RuleList b) fl_RuleList_17 d_RuleList_take_61 (hW2.trans hW) ?_
          refine dz_iconst x.1 d_RuleList_take_64 ?_
          refine dz_icmp_ne (tgt := 74) x.1 d_RuleList_take_65 (by decide) (by omega) (by omega) (fun hc65 => ?_) (fun hc65 => ?_)
          · refine dz_iload x.1 6 d_RuleList_take_74 rfl ?_
            refine dz_iconst x.1 d_RuleList_take_76 ?_
            refine dz_iadd (z := i + 1) x.1 d_RuleList_take_77 (by omega) ?_
            refine dz_istore (ls' := [(0, .ref (b + 3)), (1, .ref (b + 1)), (2, .int (dz_i (if a = true then 1 else 0))), (3, .int (dz_i (c : Int))), (4, .int (dz_i (i + 1))), (5, .int (dz_i num)), (6, .int (dz_i i))]) x.1 d_RuleList_take_78 hN (by decide) rfl ?_
            refine dz_iinc (z := num + 1) (ls' := [(0, .ref (b + 3)), (1, .ref (b + 1)), (2, .int (dz_i (if a = true then 1 else 0))), (3, .int (dz_i (c : Int))), (4, .int (dz_i (i + 1))), (5, .int (dz_i (num + 1))), (6, .int (dz_i i))]) x.1 5 d_RuleList_take_80 rfl hN (by decide) (by omega) rfl ?_
            refine dz_iinc (z := i + 1) (ls' := [(0, .ref (b + 3)), (1, .ref (b + 1)), (2, .int (dz_i (if a = true then 1 else 0))), (3, .int (dz_i (c : Int))), (4, .int (dz_i (i + 1))), (5, .int (dz_i (num + 1))), (6, .int (dz_i (i + 1)))]) x.1 6 d_RuleList_take_83 rfl hN (by decide) (by omega) rfl ?_
            refine dz_goto (tgt := 19) x.1 d_RuleList_take_86 (by decide) ?_
            by_cases h57 : (sp_one g c1 S1 f0 i).isSome = true
            · obtain ⟨u9, hu9⟩ := Option.isSome_iff_exists.mp h57
              exact ih (i + 1) (i + 1) (num + 1) w (c1 + 1) (sp_set S1 c1 u9) J2 (by omega) (by omega) (by omega) hw9 (hF.tr hF2 (fun q h => h)) (hW2.trans hW) (hs2 _ hu9) (by rw [← hS]; simp only [sp_tk]; rw [if_pos (by omega)]; rw [hu9])
            · exact ih (i + 1) (i + 1) (num + 1) w c1 S1 J2 (by omega) (by omega) (by omega) hw9 (hF.tr hF2 (fun q h => h)) (hW2.trans hW) (hn2 (Option.not_isSome_iff_eq_none.mp h57)) (by rw [← hS]; simp only [sp_tk]; rw [if_pos (by omega)]; rw [Option.not_isSome_iff_eq_none.mp h57]; show sp_tk g n k (i + 1) (i + 1) (num + 1) w c1 S1 = sp_tk g n k (i + 1) (i + 1) (num + 1) (if w = -1 then num else w) c1 S1; rw [if_neg (by first | omega | exact absurd hc57 h57)])
          · refine dz_aload_n x.1 0 d_RuleList_take_68 rfl rfl ?_
            refine dz_iload x.1 5 d_RuleList_take_69 rfl ?_
            refine dz_puti x.1 (ly_RuleList b) fl_RuleList_17 fp_RuleList_2 d_RuleList_take_71 ?_
            refine dz_iload x.1 6 d_RuleList_take_74 rfl ?_
            refine dz_iconst x.1 d_RuleList_take_76 ?_
            refine dz_iadd (z := i + 1) x.1 d_RuleList_take_77 (by omega) ?_
            refine dz_istore (ls' := [(0, .ref (b + 3)), (1, .ref (b + 1)), (2, .int (dz_i (if a = true then 1 else 0))), (3, .int (dz_i (c : Int))), (4, .int (dz_i (i + 1))), (5, .int (dz_i num)), (6, .int (dz_i i))]) x.1 d_RuleList_take_78 hN (by decide) rfl ?_
            refine dz_iinc (z := num + 1) (ls' := [(0, .ref (b + 3)), (1, .ref (b + 1)), (2, .int (dz_i (if a = true then 1 else 0))), (3, .int (dz_i (c : Int))), (4, .int (dz_i (i + 1))), (5, .int (dz_i (num + 1))), (6, .int (dz_i i))]) x.1 5 d_RuleList_take_80 rfl hN (by decide) (by omega) rfl ?_
            refine dz_iinc (z := i + 1) (ls' := [(0, .ref (b + 3)), (1, .ref (b + 1)), (2, .int (dz_i (if a = true then 1 else 0))), (3, .int (dz_i (c : Int))), (4, .int (dz_i (i + 1))), (5, .int (dz_i (num + 1))), (6, .int (dz_i (i + 1)))]) x.1 6 d_RuleList_take_83 rfl hN (by decide) (by omega) rfl ?_
            refine dz_goto (tgt := 19) x.1 d_RuleList_take_86 (by decide) ?_
            exact ih (i + 1) (i + 1) (num + 1) num c1 S1 (dz_up J2 (b + 3) 2 num) (by omega) (by omega) (by omega) (by omega) ((hF.tr hF2 (fun q h => h)).up (Or.inl rfl)) (dz_up_s _ _ _ _) ((hn2 (Option.not_isSome_iff_eq_none.mp hc57)).fr (dz_up_k _ _ _ (by decide)) (fun q h1 h2 => dz_up_n _ _ _ (by omega))) (by rw [← hS]; simp only [sp_tk]; rw [if_pos (by omega)]; rw [Option.not_isSome_iff_eq_none.mp hc57]; show sp_tk g n k (i + 1) (i + 1) (num + 1) num c1 S1 = sp_tk g n k (i + 1) (i + 1) (num + 1) (if w = -1 then num else w) c1 S1; rw [if_pos (by omega)])
      · refine dz_aload_n x.1 1 d_RuleList_take_37 rfl rfl ?_
        refine dz_iload x.1 6 d_RuleList_take_38 rfl ?_
        refine ly_callV (rest := []) x cl_RuleList_28 (c_chAt l D Dt b sz J n g TJ i (by omega)) (by decide) (ly_Typed b) rfl rfl rfl rfl (Nat.le_of_ble_eq_true rfl) d_RuleList_take_40 (fun v I' hp40 => ?_)
        obtain ⟨rfl, hp40I⟩ := hp40
        have hp40I := hp40I.symm
        subst hp40I
        have hhp40 := TJ.rng i
        show ly_V κ b sz J 43 [(0, .ref (b + 3)), (1, .ref (b + 1)), (2, .int (dz_i (if a = true then 1 else 0))), (3, .int (dz_i (c : Int))), (4, .int (dz_i f0)), (5, .int (dz_i num)), (6, .int (dz_i i))] [.int (dz_i (g i))]
        refine dz_bipush x.1 d_RuleList_take_43 (by decide) ?_
        refine dz_icmp_ne (tgt := 83) x.1 d_RuleList_take_45 (by decide) (by omega) (by omega) (fun hc45 => ?_) (fun hc45 => ?_)
        · refine dz_iinc (z := i + 1) (ls' := [(0, .ref (b + 3)), (1, .ref (b + 1)), (2, .int (dz_i (if a = true then 1 else 0))), (3, .int (dz_i (c : Int))), (4, .int (dz_i f0)), (5, .int (dz_i num)), (6, .int (dz_i (i + 1)))]) x.1 6 d_RuleList_take_83 rfl hN (by decide) (by omega) rfl ?_
          refine dz_goto (tgt := 19) x.1 d_RuleList_take_86 (by decide) ?_
          exact ih (i + 1) f0 num w c1 S1 J (by omega) (by omega) (by omega) hw9 hF hW hR (by rw [← hS]; simp only [sp_tk]; rw [if_neg (by omega)])
        · refine dz_aload_n x.1 0 d_RuleList_take_48 rfl rfl ?_
          refine dz_aload_n x.1 1 d_RuleList_take_49 rfl rfl ?_
          refine dz_iload x.1 4 d_RuleList_take_50 rfl ?_
          refine dz_iload x.1 6 d_RuleList_take_52 rfl ?_
          refine ly_callV (rest := []) x cl_RuleList_32 (c_RuleList_takeOne l D Dt b sz J n g TJ c1 S1 hR f0 i (by omega) (by omega)) (by decide) (ly_RuleList b) rfl rfl rfl rfl (Nat.le_of_ble_eq_true rfl) d_RuleList_take_54 (fun v J2 hp54 => ?_)
          obtain ⟨rfl, hF2, hW2, hn2, hs2⟩ := hp54
          show ly_V κ b sz J2 57 [(0, .ref (b + 3)), (1, .ref (b + 1)), (2, .int (dz_i (if a = true then 1 else 0))), (3, .int (dz_i (c : Int))), (4, .int (dz_i f0)), (5, .int (dz_i num)), (6, .int (dz_i i))] [.int (dz_i (if (sp_one g c1 S1 f0 i).isSome = true then 1 else 0))]
          refine dz_if_ne (tgt := 74) x.1 d_RuleList_take_57 (by decide) (dz_br _) (fun hc57 => ?_) (fun hc57 => ?_)
          · have hc57 : (sp_one g c1 S1 f0 i).isSome = true := dz_bt hc57
            refine dz_iload x.1 6 d_RuleList_take_74 rfl ?_
            refine dz_iconst x.1 d_RuleList_take_76 ?_
            refine dz_iadd (z := i + 1) x.1 d_RuleList_take_77 (by omega) ?_
            refine dz_istore (ls' := [(0, .ref (b + 3)), (1, .ref (b + 1)), (2, .int (dz_i (if a = true then 1 else 0))), (3, .int (dz_i (c : Int))), (4, .int (dz_i (i + 1))), (5, .int (dz_i num)), (6, .int (dz_i i))]) x.1 d_RuleList_take_78 hN (by decide) rfl ?_
            refine dz_iinc (z := num + 1) (ls' := [(0, .ref (b + 3)), (1, .ref (b + 1)), (2, .int (dz_i (if a = true then 1 else 0))), (3, .int (dz_i (c : Int))), (4, .int (dz_i (i + 1))), (5, .int (dz_i (num + 1))), (6, .int (dz_i i))]) x.1 5 d_RuleList_take_80 rfl hN (by decide) (by omega) rfl ?_
            refine dz_iinc (z := i + 1) (ls' := [(0, .ref (b + 3)), (1, .ref (b + 1)), (2, .int (dz_i (if a = true then 1 else 0))), (3, .int (dz_i (c : Int))), (4, .int (dz_i (i + 1))), (5, .int (dz_i (num + 1))), (6, .int (dz_i (i + 1)))]) x.1 6 d_RuleList_take_83 rfl hN (by decide) (by omega) rfl ?_
            refine dz_goto (tgt := 19) x.1 d_RuleList_take_86 (by decide) ?_
            by_cases h57 : (sp_one g c1 S1 f0 i).isSome = true
            · obtain ⟨u9, hu9⟩ := Option.isSome_iff_exists.mp h57
              exact ih (i + 1) (i + 1) (num + 1) w (c1 + 1) (sp_set S1 c1 u9) J2 (by omega) (by omega) (by omega) hw9 (hF.tr hF2 (fun q h => h)) (hW2.trans hW) (hs2 _ hu9) (by rw [← hS]; simp only [sp_tk]; rw [if_pos (by omega)]; rw [hu9])
            · exact ih (i + 1) (i + 1) (num + 1) w c1 S1 J2 (by omega) (by omega) (by omega) hw9 (hF.tr hF2 (fun q h => h)) (hW2.trans hW) (hn2 (Option.not_isSome_iff_eq_none.mp h57)) (by rw [← hS]; simp only [sp_tk]; rw [if_pos (by omega)]; rw [Option.not_isSome_iff_eq_none.mp h57]; show sp_tk g n k (i + 1) (i + 1) (num + 1) w c1 S1 = sp_tk g n k (i + 1) (i + 1) (num + 1) (if w = -1 then num else w) c1 S1; rw [if_neg (by first | omega | exact absurd hc57 h57)])
          · have hc57 : ¬ ((sp_one g c1 S1 f0 i).isSome = true) := dz_bf hc57
            refine dz_aload_n x.1 0 d_RuleList_take_60 rfl rfl ?_
            refine dz_geti (z := w) x.1 (ly_RuleList b) fl_RuleList_17 d_RuleList_take_61 (hW2.trans hW) ?_
            refine dz_iconst x.1 d_RuleList_take_64 ?_
            refine dz_icmp_ne (tgt := 74) x.1 d_RuleList_take_65 (by decide) (by omega) (by omega) (fun hc65 => ?_) (fun hc65 => ?_)
            · refine dz_iload x.1 6 d_RuleList_take_74 rfl ?_
              refine dz_iconst x.1 d_RuleList_take_76 ?_
              refine dz_iadd (z := i + 1) x.1 d_RuleList_take_77 (by omega) ?_
              refine dz_istore (ls' := [(0, .ref (b + 3)), (1, .ref (b + 1)), (2, .int (dz_i (if a = true then 1 else 0))), (3, .int (dz_i (c : Int))), (4, .int (dz_i (i + 1))), (5, .int (dz_i num)), (6, .int (dz_i i))]) x.1 d_RuleList_take_78 hN (by decide) rfl ?_
              refine dz_iinc (z := num + 1) (ls' := [(0, .ref (b + 3)), (1, .ref (b + 1)), (2, .int (dz_i (if a = true then 1 else 0))), (3, .int (dz_i (c : Int))), (4, .int (dz_i (i + 1))), (5, .int (dz_i (num + 1))), (6, .int (dz_i i))]) x.1 5 d_RuleList_take_80 rfl hN (by decide) (by omega) rfl ?_
              refine dz_iinc (z := i + 1) (ls' := [(0, .ref (b + 3)), (1, .ref (b + 1)), (2, .int (dz_i (if a = true then 1 else 0))), (3, .int (dz_i (c : Int))), (4, .int (dz_i (i + 1))), (5, .int (dz_i (num + 1))), (6, .int (dz_i (i + 1)))]) x.1 6 d_RuleList_take_83 rfl hN (by decide) (by omega) rfl ?_
              refine dz_goto (tgt := 19) x.1 d_RuleList_take_86 (by decide) ?_
              by_cases h57 : (sp_one g c1 S1 f0 i).isSome = true
              · obtain ⟨u9, hu9⟩ := Option.isSome_iff_exists.mp h57
                exact ih (i + 1) (i + 1) (num + 1) w (c1 + 1) (sp_set S1 c1 u9) J2 (by omega) (by omega) (by omega) hw9 (hF.tr hF2 (fun q h => h)) (hW2.trans hW) (hs2 _ hu9) (by rw [← hS]; simp only [sp_tk]; rw [if_pos (by omega)]; rw [hu9])
              · exact ih (i + 1) (i + 1) (num + 1) w c1 S1 J2 (by omega) (by omega) (by omega) hw9 (hF.tr hF2 (fun q h => h)) (hW2.trans hW) (hn2 (Option.not_isSome_iff_eq_none.mp h57)) (by rw [← hS]; simp only [sp_tk]; rw [if_pos (by omega)]; rw [Option.not_isSome_iff_eq_none.mp h57]; show sp_tk g n k (i + 1) (i + 1) (num + 1) w c1 S1 = sp_tk g n k (i + 1) (i + 1) (num + 1) (if w = -1 then num else w) c1 S1; rw [if_neg (by first | omega | exact absurd hc57 h57)])
            · refine dz_aload_n x.1 0 d_RuleList_take_68 rfl rfl ?_
              refine dz_iload x.1 5 d_RuleList_take_69 rfl ?_
              refine dz_puti x.1 (ly_RuleList b) fl_RuleList_17 fp_RuleList_2 d_RuleList_take_71 ?_
              refine dz_iload x.1 6 d_RuleList_take_74 rfl ?_
              refine dz_iconst x.1 d_RuleList_take_76 ?_
              refine dz_iadd (z := i + 1) x.1 d_RuleList_take_77 (by omega) ?_
              refine dz_istore (ls' := [(0, .ref (b + 3)), (1, .ref (b + 1)), (2, .int (dz_i (if a = true then 1 else 0))), (3, .int (dz_i (c : Int))), (4, .int (dz_i (i + 1))), (5, .int (dz_i num)), (6, .int (dz_i i))]) x.1 d_RuleList_take_78 hN (by decide) rfl ?_
              refine dz_iinc (z := num + 1) (ls' := [(0, .ref (b + 3)), (1, .ref (b + 1)), (2, .int (dz_i (if a = true then 1 else 0))), (3, .int (dz_i (c : Int))), (4, .int (dz_i (i + 1))), (5, .int (dz_i (num + 1))), (6, .int (dz_i i))]) x.1 5 d_RuleList_take_80 rfl hN (by decide) (by omega) rfl ?_
              refine dz_iinc (z := i + 1) (ls' := [(0, .ref (b + 3)), (1, .ref (b + 1)), (2, .int (dz_i (if a = true then 1 else 0))), (3, .int (dz_i (c : Int))), (4, .int (dz_i (i + 1))), (5, .int (dz_i (num + 1))), (6, .int (dz_i (i + 1)))]) x.1 6 d_RuleList_take_83 rfl hN (by decide) (by omega) rfl ?_
              refine dz_goto (tgt := 19) x.1 d_RuleList_take_86 (by decide) ?_
              exact ih (i + 1) (i + 1) (num + 1) num c1 S1 (dz_up J2 (b + 3) 2 num) (by omega) (by omega) (by omega) (by omega) ((hF.tr hF2 (fun q h => h)).up (Or.inl rfl)) (dz_up_s _ _ _ _) ((hn2 (Option.not_isSome_iff_eq_none.mp hc57)).fr (dz_up_k _ _ _ (by decide)) (fun q h1 h2 => dz_up_n _ _ _ (by omega))) (by rw [← hS]; simp only [sp_tk]; rw [if_pos (by omega)]; rw [Option.not_isSome_iff_eq_none.mp hc57]; show sp_tk g n k (i + 1) (i + 1) (num + 1) num c1 S1 = sp_tk g n k (i + 1) (i + 1) (num + 1) (if w = -1 then num else w) c1 S1; rw [if_pos (by omega)])
  show ly_V κ b sz I 0 [(0, .ref (b + 3)), (1, .ref (b + 1)), (2, .int (dz_i (if a = true then 1 else 0)))] []
  refine dz_aload_n x.1 0 d_RuleList_take_0 rfl rfl ?_
  refine dz_geti (z := (c : Int)) x.1 (ly_RuleList b) fl_RuleList_22 d_RuleList_take_1 RI.1 ?_
  refine dz_istore_n (ls' := [(0, .ref (b + 3)), (1, .ref (b + 1)), (2, .int (dz_i (if a = true then 1 else 0))), (3, .int (dz_i (c : Int)))]) x.1 d_RuleList_take_4 rfl hN (by decide) rfl ?_
  refine dz_iconst x.1 d_RuleList_take_5 ?_
  refine dz_istore (ls' := [(0, .ref (b + 3)), (1, .ref (b + 1)), (2, .int (dz_i (if a = true then 1 else 0))), (3, .int (dz_i (c : Int))), (4, .int (dz_i 0))]) x.1 d_RuleList_take_6 hN (by decide) rfl ?_
  refine dz_iconst x.1 d_RuleList_take_8 ?_
  refine dz_istore (ls' := [(0, .ref (b + 3)), (1, .ref (b + 1)), (2, .int (dz_i (if a = true then 1 else 0))), (3, .int (dz_i (c : Int))), (4, .int (dz_i 0)), (5, .int (dz_i 0))]) x.1 d_RuleList_take_9 hN (by decide) rfl ?_
  refine dz_aload_n x.1 0 d_RuleList_take_11 rfl rfl ?_
  refine dz_iconst x.1 d_RuleList_take_12 ?_
  refine dz_puti x.1 (ly_RuleList b) fl_RuleList_17 fp_RuleList_2 d_RuleList_take_13 ?_
  refine dz_iconst x.1 d_RuleList_take_16 ?_
  refine dz_istore (ls' := [(0, .ref (b + 3)), (1, .ref (b + 1)), (2, .int (dz_i (if a = true then 1 else 0))), (3, .int (dz_i (c : Int))), (4, .int (dz_i 0)), (5, .int (dz_i 0)), (6, .int (dz_i 0))]) x.1 d_RuleList_take_17 hN (by decide) rfl ?_
  exact loop (n + 1).toNat 0 0 0 (-1) c S (dz_up I (b + 3) 2 (-1)) (by omega) (by omega) (by omega) (by omega) ((sp_fr.rf (P := (fun q => q = b + 3 ∨ (b + 5 ≤ q ∧ q < b + 77)))).up (Or.inl rfl)) (dz_up_s _ _ _ _) (RI.fr (dz_up_k _ _ _ (by decide)) (fun q h1 h2 => dz_up_n _ _ _ (by omega))) hX.symm
