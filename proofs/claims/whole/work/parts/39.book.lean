/-- the book: width, lines of text, blocks, page, used lines, last page -/
def sp_K (b : Nat) (J : dz_Hp) (W T nb pg us la : Int) : Prop := J (b + 80) 0 = W ∧ J (b + 80) 1 = T + 1 ∧ J (b + 80) 2 = T ∧ J (b + 80) 4 = nb ∧ J (b + 80) 5 = pg ∧ J (b + 80) 6 = us ∧ J (b + 80) 7 = la
theorem sp_K.fr {b : Nat} {I J : dz_Hp} {W T nb pg us la : Int} (H : sp_K b I W T nb pg us la) (h : J (b + 80) = I (b + 80)) : sp_K b J W T nb pg us la := by unfold sp_K; rw [h]; exact H
def sp_mw (T lc : Int) (x : Int × Int) : Int × Int := if x.2 = 0 then x else if T - x.2 - 1 < lc + 1 then (x.1 + 1, 0) else (x.1, x.2 + 1)
def sp_br (k : Int) (x : Int × Int) : Int × Int := if k = 3 ∧ 0 < x.2 then (x.1 + 1, 0) else x
def sp_bh (T k lc : Int) (x : Int × Int) : Int × Int := if k = 1 ∧ 0 < lc then sp_mw T lc x else x
def sp_tp (T : Int) (x : Int × Int) : Int × Int := if T ≤ x.2 then (x.1 + 1, 0) else x
def sp_pu (T : Int) : Nat → Int × Int × Int → Int × Int × Int
  | 0, y => y
  | n + 1, y => sp_pu T n ((sp_tp T (y.1, y.2.1)).1, (sp_tp T (y.1, y.2.1)).2 + 1, (sp_tp T (y.1, y.2.1)).1)
/-- page and used lines ahead of a block's lines -/
def sp_x0 (T k lc : Int) (x : Int × Int) : Int × Int := sp_bh T k lc (sp_br k x)
theorem sp_x0_rng {T k lc pg us : Int} (hT : 3 ≤ T) (h : 0 ≤ us ∧ us ≤ T) : (0 ≤ (sp_x0 T k lc (pg, us)).2 ∧ (sp_x0 T k lc (pg, us)).2 ≤ T) ∧ pg ≤ (sp_x0 T k lc (pg, us)).1 ∧ (sp_x0 T k lc (pg, us)).1 ≤ pg + 1 := by
  unfold sp_x0 sp_bh sp_mw sp_br
  simp only
  (repeat' split) <;> simp_all <;> omega
def sp_dv (p : Int) : Nat → Int
  | 0 => p
  | k + 1 => sp_dv p k / 10
theorem sp_dv_rng {p : Int} (h : 0 ≤ p ∧ p < 100000) (k : Nat) : 0 ≤ sp_dv p k ∧ sp_dv p k < 100000 := by
  induction k with
  | zero => exact h
  | succ k ih => simp only [sp_dv]; omega
def sp_num (W p pl : Int) : Int := if 0 < sp_dv p (W - 1 - pl).toNat then sp_cell (sp_dv p (W - 1 - pl).toNat % 10 + 48) else if 0 < (if (W - 1 - pl).toNat = 0 then p else sp_dv p ((W - 1 - pl).toNat - 1)) then 60 else 0
/-- the blocks as the book lays them out -/
def sp_BB (b : Nat) (J : dz_Hp) (nb : Nat) (W : Int) (Kd : Nat → Int) (Ls : Nat → List (List Int)) (PG LN : Nat → Int) : Prop := nb ≤ 12 ∧ ∀ j, j < nb → J (b + (82 + 4 * j)) 0 = Kd j ∧ (0 ≤ Kd j ∧ Kd j ≤ 3) ∧ sp_L b j J (Ls j) ∧ (Ls j).length ≤ 200 ∧ (Ls j).flatten.length ≤ 200 ∧ (∀ q, q < (Ls j).length → (((Ls j).getD q []).length : Int) ≤ W) ∧ J (b + (82 + 4 * j)) 7 = PG j ∧ J (b + (82 + 4 * j)) 8 = LN j ∧ (0 ≤ PG j ∧ PG j ≤ 5000) ∧ (0 ≤ LN j ∧ LN j ≤ 20)
def sp_fnd (W T : Int) (Kd : Nat → Int) (Ls : Nat → List (List Int)) (PG LN : Nat → Int) (p l9 pl : Int) (j : Nat) : Option Int := if 0 ≤ (p - PG j) * T + l9 - LN j ∧ (p - PG j) * T + l9 - LN j < ((Ls j).length : Int) then some (sp_col W (Kd j) (Ls j) ((p - PG j) * T + l9 - LN j).toNat pl) else none
def sp_ctx (f : Nat → Option Int) : Nat → Nat → Int
  | 0, _ => 0
  | k + 1, j => match f j with
    | some v => v
    | none => sp_ctx f k (j + 1)
theorem sp_mulr {x T : Int} (hx : -10000 ≤ x ∧ x ≤ 10000) (hT : 0 ≤ T ∧ T ≤ 20) : -200000 ≤ x * T ∧ x * T ≤ 200000 := by
  have h1 : x * T ≤ 10000 * T := Int.mul_le_mul_of_nonneg_right hx.2 hT.1
  have h2 : -10000 * T ≤ x * T := Int.mul_le_mul_of_nonneg_right hx.1 hT.1
  omega
set_option maxRecDepth 100000 in
set_option maxHeartbeats 4000000 in
theorem c_Book_empty (l : Launch) (D : va_G) (Dt : Nat → ClassId) (b sz : Nat) (I : dz_Hp) (W T nb pg us la : Int) (KI : sp_K b I W T nb pg us la)  : ly_M l D Dt b sz y_Book_empty b_Book_empty 1 none 1 [.ref (b + 80)] I (fun v I' => v = none ∧ sp_fr I I' (fun q => q = b + 80) ∧ sp_K b I' W T 0 1 0 1) := by
  refine ly_enter R_Book (by decide) rfl (Nat.le_of_ble_eq_true rfl) (ly_cat _ 0 rfl) (fun κ x => ?_)
  have hN := ly_N x
  show ly_V κ b sz I 0 [(0, .ref (b + 80))] []
  refine dz_aload_n x.1 0 d_Book_empty_0 rfl rfl ?_
  refine dz_iconst x.1 d_Book_empty_1 ?_
  refine dz_puti x.1 (ly_Book b) fl_Book_34 fp_Book_4 d_Book_empty_2 ?_
  refine dz_aload_n x.1 0 d_Book_empty_5 rfl rfl ?_
  refine dz_iconst x.1 d_Book_empty_6 ?_
  refine dz_puti x.1 (ly_Book b) fl_Book_17 fp_Book_5 d_Book_empty_7 ?_
  refine dz_aload_n x.1 0 d_Book_empty_10 rfl rfl ?_
  refine dz_iconst x.1 d_Book_empty_11 ?_
  refine dz_puti x.1 (ly_Book b) fl_Book_37 fp_Book_6 d_Book_empty_12 ?_
  refine dz_aload_n x.1 0 d_Book_empty_15 rfl rfl ?_
  refine dz_iconst x.1 d_Book_empty_16 ?_
  refine dz_puti x.1 (ly_Book b) fl_Book_21 fp_Book_7 d_Book_empty_17 ?_
  exact ly_vret x d_Book_empty_20 ⟨rfl, (((((sp_fr.rf (P := (fun q => q = b + 80))).up rfl).up rfl).up rfl).up rfl), ⟨by (repeat (first | rw [dz_up_s] | rw [dz_up_k _ _ _ (by decide)] | rw [dz_up_n _ _ _ (by omega)])) <;> (first | exact KI.1 | rfl), by (repeat (first | rw [dz_up_s] | rw [dz_up_k _ _ _ (by decide)] | rw [dz_up_n _ _ _ (by omega)])) <;> (first | exact KI.2.1 | rfl), by (repeat (first | rw [dz_up_s] | rw [dz_up_k _ _ _ (by decide)] | rw [dz_up_n _ _ _ (by omega)])) <;> (first | exact KI.2.2.1 | rfl), by (repeat (first | rw [dz_up_s] | rw [dz_up_k _ _ _ (by decide)] | rw [dz_up_n _ _ _ (by omega)])) <;> (first | exact KI.2.2.2.1 | rfl), by (repeat (first | rw [dz_up_s] | rw [dz_up_k _ _ _ (by decide)] | rw [dz_up_n _ _ _ (by omega)])) <;> (first | exact KI.2.2.2.2.1 | rfl), by (repeat (first | rw [dz_up_s] | rw [dz_up_k _ _ _ (by decide)] | rw [dz_up_n _ _ _ (by omega)])) <;> (first | exact KI.2.2.2.2.2.1 | rfl), by (repeat (first | rw [dz_up_s] | rw [dz_up_k _ _ _ (by decide)] | rw [dz_up_n _ _ _ (by omega)])) <;> (first | exact KI.2.2.2.2.2.2 | rfl)⟩⟩
set_option maxRecDepth 100000 in
set_option maxHeartbeats 4000000 in
theorem c_Book_turnPage (l : Launch) (D : va_G) (Dt : Nat → ClassId) (b sz : Nat) (I : dz_Hp) (W T nb pg us la : Int) (KI : sp_K b I W T nb pg us la)  : ly_M l D Dt b sz y_Book_turnPage b_Book_turnPage 1 none 1 [.ref (b + 80)] I (fun v I' => v = none ∧ sp_fr I I' (fun q => q = b + 80) ∧ sp_K b I' W T nb (pg + 1) 0 la) := by
  refine ly_enter R_Book (by decide) rfl (Nat.le_of_ble_eq_true rfl) (ly_cat _ 0 rfl) (fun κ x => ?_)
  have hN := ly_N x
  show ly_V κ b sz I 0 [(0, .ref (b + 80))] []
  refine dz_aload_n x.1 0 d_Book_turnPage_0 rfl rfl ?_
  refine dz_dup x.1 d_Book_turnPage_1 rfl ?_
  refine dz_geti (z := pg) x.1 (ly_Book b) fl_Book_17 d_Book_turnPage_2 KI.2.2.2.2.1 ?_
  refine dz_iconst x.1 d_Book_turnPage_5 ?_
  refine dz_iadd (z := pg + 1) x.1 d_Book_turnPage_6 (by omega) ?_
  refine dz_puti x.1 (ly_Book b) fl_Book_17 fp_Book_5 d_Book_turnPage_7 ?_
  refine dz_aload_n x.1 0 d_Book_turnPage_10 rfl rfl ?_
  refine dz_iconst x.1 d_Book_turnPage_11 ?_
  refine dz_puti x.1 (ly_Book b) fl_Book_37 fp_Book_6 d_Book_turnPage_12 ?_
  exact ly_vret x d_Book_turnPage_15 ⟨rfl, (((sp_fr.rf (P := (fun q => q = b + 80))).up rfl).up rfl), ⟨by (repeat (first | rw [dz_up_s] | rw [dz_up_k _ _ _ (by decide)] | rw [dz_up_n _ _ _ (by omega)])) <;> (first | exact KI.1 | rfl), by (repeat (first | rw [dz_up_s] | rw [dz_up_k _ _ _ (by decide)] | rw [dz_up_n _ _ _ (by omega)])) <;> (first | exact KI.2.1 | rfl), by (repeat (first | rw [dz_up_s] | rw [dz_up_k _ _ _ (by decide)] | rw [dz_up_n _ _ _ (by omega)])) <;> (first | exact KI.2.2.1 | rfl), by (repeat (first | rw [dz_up_s] | rw [dz_up_k _ _ _ (by decide)] | rw [dz_up_n _ _ _ (by omega)])) <;> (first | exact KI.2.2.2.1 | rfl), by (repeat (first | rw [dz_up_s] | rw [dz_up_k _ _ _ (by decide)] | rw [dz_up_n _ _ _ (by omega)])) <;> (first | exact KI.2.2.2.2.1 | rfl), by (repeat (first | rw [dz_up_s] | rw [dz_up_k _ _ _ (by decide)] | rw [dz_up_n _ _ _ (by omega)])) <;> (first | exact KI.2.2.2.2.2.1 | rfl), by (repeat (first | rw [dz_up_s] | rw [dz_up_k _ _ _ (by decide)] | rw [dz_up_n _ _ _ (by omega)])) <;> (first | exact KI.2.2.2.2.2.2 | rfl)⟩⟩
set_option maxRecDepth 100000 in
set_option maxHeartbeats 4000000 in
theorem c_Book_makeWayForHeading (l : Launch) (D : va_G) (Dt : Nat → ClassId) (b sz : Nat) (I : dz_Hp) (W T nb pg us la : Int) (KI : sp_K b I W T nb pg us la) (hT : 3 ≤ T ∧ T ≤ 19) (hpg : 1 ≤ pg ∧ pg ≤ 5000) (hus : 0 ≤ us ∧ us ≤ T) (lc : Int) (hlc : 0 ≤ lc ∧ lc ≤ 200) : ly_M l D Dt b sz y_Book_makeWayForHeading b_Book_makeWayForHeading 3 none 2 [.ref (b + 80), .int (dz_i lc)] I (fun v I' => v = none ∧ sp_fr I I' (fun q => q = b + 80) ∧ sp_K b I' W T nb (sp_mw T lc (pg, us)).1 (sp_mw T lc (pg, us)).2 la) := by
  refine ly_enter R_Book (by decide) rfl (Nat.le_of_ble_eq_true rfl) (ly_cat _ 0 rfl) (fun κ x => ?_)
  have hN := ly_N x
  show ly_V κ b sz I 0 [(0, .ref (b + 80)), (1, .int (dz_i lc))] []
  refine dz_aload_n x.1 0 d_Book_makeWayForHeading_0 rfl rfl ?_
  refine dz_geti (z := us) x.1 (ly_Book b) fl_Book_37 d_Book_makeWayForHeading_1 KI.2.2.2.2.2.1 ?_
  refine dz_if_ne (tgt := 8) x.1 d_Book_makeWayForHeading_4 (by decide) (by omega) (fun hc4 => ?_) (fun hc4 => ?_)
  · refine dz_aload_n x.1 0 d_Book_makeWayForHeading_8 rfl rfl ?_
    refine dz_geti (z := T) x.1 (ly_Book b) fl_Book_30 d_Book_makeWayForHeading_9 KI.2.2.1 ?_
    refine dz_aload_n x.1 0 d_Book_makeWayForHeading_12 rfl rfl ?_
    refine dz_geti (z := us) x.1 (ly_Book b) fl_Book_37 d_Book_makeWayForHeading_13 KI.2.2.2.2.2.1 ?_
    refine dz_isub (z := T - us) x.1 d_Book_makeWayForHeading_16 (by omega) ?_
    refine dz_iconst x.1 d_Book_makeWayForHeading_17 ?_
    refine dz_isub (z := T - us - 1) x.1 d_Book_makeWayForHeading_18 (by omega) ?_
    refine dz_istore_n (ls' := [(0, .ref (b + 80)), (1, .int (dz_i lc)), (2, .int (dz_i (T - us - 1)))]) x.1 d_Book_makeWayForHeading_19 rfl hN (by decide) rfl ?_
    refine dz_iload_n x.1 2 d_Book_makeWayForHeading_20 rfl rfl ?_
    refine dz_iload_n x.1 1 d_Book_makeWayForHeading_21 rfl rfl ?_
    refine dz_iconst x.1 d_Book_makeWayForHeading_22 ?_
    refine dz_iadd (z := lc + 1) x.1 d_Book_makeWayForHeading_23 (by omega) ?_
    refine dz_icmp_ge (tgt := 34) x.1 d_Book_makeWayForHeading_24 (by decide) (by omega) (by omega) (fun hc24 => ?_) (fun hc24 => ?_)
    · refine dz_aload_n x.1 0 d_Book_makeWayForHeading_34 rfl rfl ?_
      refine dz_dup x.1 d_Book_makeWayForHeading_35 rfl ?_
      refine dz_geti (z := us) x.1 (ly_Book b) fl_Book_37 d_Book_makeWayForHeading_36 KI.2.2.2.2.2.1 ?_
      refine dz_iconst x.1 d_Book_makeWayForHeading_39 ?_
      refine dz_iadd (z := us + 1) x.1 d_Book_makeWayForHeading_40 (by omega) ?_
      refine dz_puti x.1 (ly_Book b) fl_Book_37 fp_Book_6 d_Book_makeWayForHeading_41 ?_
      have hm : sp_mw T lc (pg, us) = (pg, us + 1) := by unfold sp_mw; rw [if_neg (by show ¬ us = 0; omega), if_neg (by show ¬ T - us - 1 < lc + 1; omega)]
      exact ly_vret x d_Book_makeWayForHeading_44 ⟨rfl, ((sp_fr.rf (P := (fun q => q = b + 80))).up rfl), by rw [hm]; exact ⟨by (repeat (first | rw [dz_up_s] | rw [dz_up_k _ _ _ (by decide)] | rw [dz_up_n _ _ _ (by omega)])) <;> (first | exact KI.1 | rfl), by (repeat (first | rw [dz_up_s] | rw [dz_up_k _ _ _ (by decide)] | rw [dz_up_n _ _ _ (by omega)])) <;> (first | exact KI.2.1 | rfl), by (repeat (first | rw [dz_up_s] | rw [dz_up_k _ _ _ (by decide)] | rw [dz_up_n _ _ _ (by omega)])) <;> (first | exact KI.2.2.1 | rfl), by (repeat (first | rw [dz_up_s] | rw [dz_up_k _ _ _ (by decide)] | rw [dz_up_n _ _ _ (by omega)])) <;> (first | exact KI.2.2.2.1 | rfl), by (repeat (first | rw [dz_up_s] | rw [dz_up_k _ _ _ (by decide)] | rw [dz_up_n _ _ _ (by omega)])) <;> (first | exact KI.2.2.2.2.1 | rfl), by (repeat (first | rw [dz_up_s] | rw [dz_up_k _ _ _ (by decide)] | rw [dz_up_n _ _ _ (by omega)])) <;> (first | exact KI.2.2.2.2.2.1 | rfl), by (repeat (first | rw [dz_up_s] | rw [dz_up_k _ _ _ (by decide)] | rw [dz_up_n _ _ _ (by omega)])) <;> (first | exact KI.2.2.2.2.2.2 | rfl)⟩⟩
    · refine dz_aload_n x.1 0 d_Book_makeWayForHeading_27 rfl rfl ?_
      refine ly_callV (rest := []) x cl_Book_47 (c_Book_turnPage l D Dt b sz I W T nb pg us la KI) (by decide) (ly_Book b) rfl rfl rfl rfl (Nat.le_of_ble_eq_true rfl) d_Book_makeWayForHeading_28 (fun v J28 hp28 => ?_)
      obtain ⟨rfl, hFJ28, KJ28⟩ := hp28
      show ly_V κ b sz J28 31 [(0, .ref (b + 80)), (1, .int (dz_i lc)), (2, .int (dz_i (T - us - 1)))] []
      refine dz_goto (tgt := 44) x.1 d_Book_makeWayForHeading_31 (by decide) ?_
      have hm : sp_mw T lc (pg, us) = (pg + 1, 0) := by unfold sp_mw; rw [if_neg (by show ¬ us = 0; omega), if_pos (by show T - us - 1 < lc + 1; omega)]
      exact ly_vret x d_Book_makeWayForHeading_44 ⟨rfl, hFJ28, by rw [hm]; exact KJ28⟩
  · have hm : sp_mw T lc (pg, us) = (pg, us) := by unfold sp_mw; rw [if_pos (by show us = 0; omega)]
    exact ly_vret x d_Book_makeWayForHeading_7 ⟨rfl, sp_fr.rf, by rw [hm]; exact KI⟩
set_option maxRecDepth 100000 in
set_option maxHeartbeats 4000000 in
theorem c_Book_cellOfNumber (l : Launch) (D : va_G) (Dt : Nat → ClassId) (b sz : Nat) (I : dz_Hp) (W T nb pg us la : Int) (KI : sp_K b I W T nb pg us la) (hW : 10 ≤ W ∧ W ≤ 40) (p pl : Int) (hp : 1 ≤ p ∧ p < 100000) (hpl : 0 ≤ pl ∧ pl < W) : ly_M l D Dt b sz y_Book_cellOfNumber b_Book_cellOfNumber 6 (some .int) 6 [.ref (b + 80), .int (dz_i p), .int (dz_i pl)] I (fun v I' => v = some (.int (dz_i (sp_num W p pl))) ∧ I' = I) := by
  refine ly_enter R_Book (by decide) rfl (Nat.le_of_ble_eq_true rfl) (ly_cat _ 0 rfl) (fun κ x => ?_)
  have hN := ly_N x
  have loop : ∀ (k : Nat) (q : Nat) (rb : Int), (W - (q : Int) - 1 = pl + (k : Int)) → (0 ≤ rb ∧ rb < 100000) → (rb = if q = 0 then p else sp_dv p (q - 1)) → ly_V κ b sz I 13 [(0, .ref (b + 80)), (1, .int (dz_i p)), (2, .int (dz_i pl)), (3, .int (dz_i (sp_dv p q))), (4, .int (dz_i rb)), (5, .int (dz_i (W - (q : Int) - 1)))] [] := by
    intro k
    induction k with
    | zero =>
      intro q rb hq hrr hrb
      have hd1 := sp_dv_rng (p := p) (by omega) q
      refine dz_iload x.1 5 d_Book_cellOfNumber_13 rfl ?_
      refine dz_iload_n x.1 2 d_Book_cellOfNumber_15 rfl rfl ?_
      refine dz_icmp_le (tgt := 33) x.1 d_Book_cellOfNumber_16 (by decide) (by omega) (by omega) (fun hc16 => ?_) (fun hc16 => by exfalso; omega)
      refine dz_iload_n x.1 3 d_Book_cellOfNumber_33 rfl rfl ?_
      refine dz_if_le (tgt := 49) x.1 d_Book_cellOfNumber_34 (by decide) (by omega) (fun hc34 => ?_) (fun hc34 => ?_)
      · refine dz_iload x.1 4 d_Book_cellOfNumber_49 rfl ?_
        refine dz_if_le (tgt := 59) x.1 d_Book_cellOfNumber_51 (by decide) (by omega) (fun hc51 => ?_) (fun hc51 => ?_)
        · refine dz_iconst x.1 d_Book_cellOfNumber_59 ?_
          have hv9 : sp_num W p pl = 0 := by unfold sp_num; rw [show (W - 1 - pl).toNat = q by omega, if_neg (by omega), if_neg (by rw [← hrb]; omega)]
          exact ly_iret x d_Book_cellOfNumber_60 rfl ⟨by rw [hv9], rfl⟩
        · refine dz_bipush x.1 d_Book_cellOfNumber_54 (by decide) ?_
          refine dz_goto (tgt := 60) x.1 d_Book_cellOfNumber_56 (by decide) ?_
          have hv9 : sp_num W p pl = 60 := by unfold sp_num; rw [show (W - 1 - pl).toNat = q by omega, if_neg (by omega), if_pos (by rw [← hrb]; omega)]
          exact ly_iret x d_Book_cellOfNumber_60 rfl ⟨by rw [hv9], rfl⟩
      · refine dz_bipush x.1 d_Book_cellOfNumber_37 (by decide) ?_
        refine dz_iload_n x.1 3 d_Book_cellOfNumber_39 rfl rfl ?_
        refine dz_bipush x.1 d_Book_cellOfNumber_40 (by decide) ?_
        refine dz_irem x.1 d_Book_cellOfNumber_42 (by omega) (by omega) ?_
        refine dz_iadd (z := ((sp_dv p q) % 10) + 48) x.1 d_Book_cellOfNumber_43 (by omega) ?_
        refine dz_i2c x.1 d_Book_cellOfNumber_44 (by omega) ?_
        refine ly_callS (rest := []) x cl_Book_64 (c_Code_cellOf l D Dt b sz I (((sp_dv p q) % 10) + 48) (by omega)) (by decide) rfl rfl (Nat.le_of_ble_eq_true rfl) d_Book_cellOfNumber_45 (fun v I' hp45 => ?_)
        obtain ⟨rfl, hp45I⟩ := hp45
        have hp45I := hp45I.symm
        subst hp45I
        show ly_V κ b sz I 48 [(0, .ref (b + 80)), (1, .int (dz_i p)), (2, .int (dz_i pl)), (3, .int (dz_i (sp_dv p q))), (4, .int (dz_i rb)), (5, .int (dz_i (W - (q : Int) - 1)))] [.int (dz_i (sp_cell (sp_dv p q % 10 + 48)))]
        have hv9 : sp_num W p pl = (sp_cell (sp_dv p q % 10 + 48)) := by unfold sp_num; rw [show (W - 1 - pl).toNat = q by omega, if_pos (by omega)]
        exact ly_iret x d_Book_cellOfNumber_48 rfl ⟨by rw [hv9], rfl⟩
    | succ k ih =>
      intro q rb hq hrr hrb
      have hd1 := sp_dv_rng (p := p) (by omega) q
      refine dz_iload x.1 5 d_Book_cellOfNumber_13 rfl ?_
      refine dz_iload_n x.1 2 d_Book_cellOfNumber_15 rfl rfl ?_
      refine dz_icmp_le (tgt := 33) x.1 d_Book_cellOfNumber_16 (by decide) (by omega) (by omega) (fun hc16 => by exfalso; omega) (fun hc16 => ?_)
      refine dz_iload_n x.1 3 d_Book_cellOfNumber_19 rfl rfl ?_
      refine dz_istore (ls' := [(0, .ref (b + 80)), (1, .int (dz_i p)), (2, .int (dz_i pl)), (3, .int (dz_i (sp_dv p q))), (4, .int (dz_i (sp_dv p q))), (5, .int (dz_i (W - (q : Int) - 1)))]) x.1 d_Book_cellOfNumber_20 hN (by decide) rfl ?_
      refine dz_iload_n x.1 3 d_Book_cellOfNumber_22 rfl rfl ?_
      refine dz_bipush x.1 d_Book_cellOfNumber_23 (by decide) ?_
      refine dz_idiv x.1 d_Book_cellOfNumber_25 (by omega) (by omega) ?_
      refine dz_istore_n (ls' := [(0, .ref (b + 80)), (1, .int (dz_i p)), (2, .int (dz_i pl)), (3, .int (dz_i ((sp_dv p q) / 10))), (4, .int (dz_i (sp_dv p q))), (5, .int (dz_i (W - (q : Int) - 1)))]) x.1 d_Book_cellOfNumber_26 rfl hN (by decide) rfl ?_
      refine dz_iinc (z := W - (q : Int) - 2) (ls' := [(0, .ref (b + 80)), (1, .int (dz_i p)), (2, .int (dz_i pl)), (3, .int (dz_i ((sp_dv p q) / 10))), (4, .int (dz_i (sp_dv p q))), (5, .int (dz_i (W - (q : Int) - 2)))]) x.1 5 d_Book_cellOfNumber_27 rfl hN (by decide) (by omega) rfl ?_
      refine dz_goto (tgt := 13) x.1 d_Book_cellOfNumber_30 (by decide) ?_
      have h9 := ih (q + 1) (sp_dv p q) (by omega) (by omega) (by rw [if_neg (by omega)]; rfl)
      rw [show ((q + 1 : Nat) : Int) = (q : Int) + 1 by omega, show W - ((q : Int) + 1) - 1 = W - (q : Int) - 2 by omega] at h9
      exact h9
  show ly_V κ b sz I 0 [(0, .ref (b + 80)), (1, .int (dz_i p)), (2, .int (dz_i pl))] []
  refine dz_iload_n x.1 1 d_Book_cellOfNumber_0 rfl rfl ?_
  refine dz_istore_n (ls' := [(0, .ref (b + 80)), (1, .int (dz_i p)), (2, .int (dz_i pl)), (3, .int (dz_i p))]) x.1 d_Book_cellOfNumber_1 rfl hN (by decide) rfl ?_
  refine dz_iload_n x.1 1 d_Book_cellOfNumber_2 rfl rfl ?_
  refine dz_istore (ls' := [(0, .ref (b + 80)), (1, .int (dz_i p)), (2, .int (dz_i pl)), (3, .int (dz_i p)), (4, .int (dz_i p))]) x.1 d_Book_cellOfNumber_3 hN (by decide) rfl ?_
  refine dz_aload_n x.1 0 d_Book_cellOfNumber_5 rfl rfl ?_
  refine dz_geti (z := W) x.1 (ly_Book b) fl_Book_24 d_Book_cellOfNumber_6 KI.1 ?_
  refine dz_iconst x.1 d_Book_cellOfNumber_9 ?_
  refine dz_isub (z := W - 1) x.1 d_Book_cellOfNumber_10 (by omega) ?_
  refine dz_istore (ls' := [(0, .ref (b + 80)), (1, .int (dz_i p)), (2, .int (dz_i pl)), (3, .int (dz_i p)), (4, .int (dz_i p)), (5, .int (dz_i (W - 1)))]) x.1 d_Book_cellOfNumber_11 hN (by decide) rfl ?_
  have h9 := loop (W - 1 - pl).toNat 0 p (by omega) (by omega) rfl
  rw [show W - ((0 : Nat) : Int) - 1 = W - 1 by omega] at h9
  exact h9
set_option maxRecDepth 100000 in
set_option maxHeartbeats 4000000 in
theorem c_Book_cellOfText (l : Launch) (D : va_G) (Dt : Nat → ClassId) (b sz : Nat) (I : dz_Hp) (W T nb pg us la : Int) (KI : sp_K b I W T nb pg us la) (hT : 3 ≤ T ∧ T ≤ 19) (hW : 10 ≤ W ∧ W ≤ 40) (Kd : Nat → Int) (Ls : Nat → List (List Int)) (PG LN : Nat → Int) (nn : Nat) (hnn : nb = (nn : Int)) (HB : sp_BB b I nn W Kd Ls PG LN) (p l9 pl : Int) (hp : 0 ≤ p ∧ p ≤ 5000) (hl9 : 0 ≤ l9 ∧ l9 ≤ 20) (hpl : 0 ≤ pl ∧ pl < 100) : ly_M l D Dt b sz y_Book_cellOfText b_Book_cellOfText 7 (some .int) 3 [.ref (b + 80), .int (dz_i p), .int (dz_i l9), .int (dz_i pl)] I (fun v I' => v = some (.int (dz_i (sp_ctx (sp_fnd W T Kd Ls PG LN p l9 pl) nn 0))) ∧ I' = I) := by
  refine ly_enter R_Book (by decide) rfl (Nat.le_of_ble_eq_true rfl) (ly_cat _ 0 rfl) (fun κ x => ?_)
  have hN := ly_N x
  have h12 := HB.1
  have loop : ∀ (k : Nat) (j : Nat), (j + k = nn) → (sp_ctx (sp_fnd W T Kd Ls PG LN p l9 pl) k j = sp_ctx (sp_fnd W T Kd Ls PG LN p l9 pl) nn 0) → ly_V κ b sz I 3 [(0, .ref (b + 80)), (1, .int (dz_i p)), (2, .int (dz_i l9)), (3, .int (dz_i pl)), (4, .int (dz_i (j : Int)))] [] := by
    intro k
    induction k with
    | zero =>
      intro j hjk hS
      refine dz_iload x.1 4 d_Book_cellOfText_3 rfl ?_
      refine dz_aload_n x.1 0 d_Book_cellOfText_5 rfl rfl ?_
      refine dz_geti (z := nb) x.1 (ly_Book b) fl_Book_34 d_Book_cellOfText_6 KI.2.2.2.1 ?_
      refine dz_icmp_ge (tgt := 77) x.1 d_Book_cellOfText_9 (by decide) (by omega) (by omega) (fun hc9 => ?_) (fun hc9 => by exfalso; omega)
      refine dz_iconst x.1 d_Book_cellOfText_77 ?_
      exact ly_iret x d_Book_cellOfText_78 rfl ⟨by rw [← hS]; rfl, rfl⟩
    | succ k ih =>
      intro j hjk hS
      have hj := HB.2 j (by omega)
      have hj12 : j < 12 := by omega
      have hj1 := hj.2.2.2.2.2.2.2.2.1
      have hj2 := hj.2.2.2.2.2.2.2.2.2
      have hj3 := hj.2.2.2.1
      have hmu := sp_mulr (x := p - PG j) (T := T) (by omega) (by omega)
      refine dz_iload x.1 4 d_Book_cellOfText_3 rfl ?_
      refine dz_aload_n x.1 0 d_Book_cellOfText_5 rfl rfl ?_
      refine dz_geti (z := nb) x.1 (ly_Book b) fl_Book_34 d_Book_cellOfText_6 KI.2.2.2.1 ?_
      refine dz_icmp_ge (tgt := 77) x.1 d_Book_cellOfText_9 (by decide) (by omega) (by omega) (fun hc9 => by exfalso; omega) (fun hc9 => ?_)
      refine dz_aload_n x.1 0 d_Book_cellOfText_12 rfl rfl ?_
      refine dz_getr x.1 (ly_Book b) fl_Book_11 (lr_Book_3 b) d_Book_cellOfText_13 ?_
      refine dz_iload x.1 4 d_Book_cellOfText_16 rfl ?_
      refine dz_aald4 x.1 (ly_BlockArr b) (by decide) (by omega) (lr_BlockArr b hj12) d_Book_cellOfText_18 ?_
      refine dz_astore (ls' := [(0, .ref (b + 80)), (1, .int (dz_i p)), (2, .int (dz_i l9)), (3, .int (dz_i pl)), (4, .int (dz_i (j : Int))), (5, .ref (b + (82 + 4 * j)))]) x.1 d_Book_cellOfText_19 hN (by decide) rfl ?_
      refine dz_iload_n x.1 1 d_Book_cellOfText_21 rfl rfl ?_
      refine dz_aload x.1 5 d_Book_cellOfText_22 rfl ?_
      refine dz_geti (z := (PG j)) x.1 (ly_Block b hj12) fl_Book_56 d_Book_cellOfText_24 hj.2.2.2.2.2.2.1 ?_
      refine dz_isub (z := p - (PG j)) x.1 d_Book_cellOfText_27 (by omega) ?_
      refine dz_aload_n x.1 0 d_Book_cellOfText_28 rfl rfl ?_
      refine dz_geti (z := T) x.1 (ly_Book b) fl_Book_30 d_Book_cellOfText_29 KI.2.2.1 ?_
      refine dz_imul (z := ((p - PG j) * T)) x.1 d_Book_cellOfText_32 (by first | rfl | omega) ?_
      refine dz_iload_n x.1 2 d_Book_cellOfText_33 rfl rfl ?_
      refine dz_iadd (z := ((p - PG j) * T) + l9) x.1 d_Book_cellOfText_34 (by omega) ?_
      refine dz_aload x.1 5 d_Book_cellOfText_35 rfl ?_
      refine dz_geti (z := (LN j)) x.1 (ly_Block b hj12) fl_Book_57 d_Book_cellOfText_37 hj.2.2.2.2.2.2.2.1 ?_
      refine dz_isub (z := ((p - PG j) * T) + l9 - (LN j)) x.1 d_Book_cellOfText_40 (by omega) ?_
      refine dz_istore (ls' := [(0, .ref (b + 80)), (1, .int (dz_i p)), (2, .int (dz_i l9)), (3, .int (dz_i pl)), (4, .int (dz_i (j : Int))), (5, .ref (b + (82 + 4 * j))), (6, .int (dz_i (((p - PG j) * T) + l9 - (LN j))))]) x.1 d_Book_cellOfText_41 hN (by decide) rfl ?_
      refine dz_iload x.1 6 d_Book_cellOfText_43 rfl ?_
      refine dz_if_lt (tgt := 71) x.1 d_Book_cellOfText_45 (by decide) (by omega) (fun hc45 => ?_) (fun hc45 => ?_)
      · refine dz_iinc (z := (j : Int) + 1) (ls' := [(0, .ref (b + 80)), (1, .int (dz_i p)), (2, .int (dz_i l9)), (3, .int (dz_i pl)), (4, .int (dz_i ((j : Int) + 1))), (5, .ref (b + (82 + 4 * j))), (6, .int (dz_i (((p - PG j) * T) + l9 - (LN j))))]) x.1 4 d_Book_cellOfText_71 rfl hN (by decide) (by omega) rfl ?_
        refine dz_goto (tgt := 3) x.1 d_Book_cellOfText_74 (by decide) ?_
        refine dz_take 5 (ls' := [(0, .ref (b + 80)), (1, .int (dz_i p)), (2, .int (dz_i l9)), (3, .int (dz_i pl)), (4, .int (dz_i ((j : Int) + 1)))]) rfl ?_
        have h9 := ih (j + 1) (by omega) (by rw [← hS]; simp only [sp_ctx]; rw [show (sp_fnd W T Kd Ls PG LN p l9 pl) j = none from if_neg (by omega)])
        rw [show ((j + 1 : Nat) : Int) = (j : Int) + 1 by omega] at h9
        exact h9
      · refine dz_iload x.1 6 d_Book_cellOfText_48 rfl ?_
        refine dz_aload x.1 5 d_Book_cellOfText_50 rfl ?_
        refine dz_geti (z := ((Ls j).length : Int)) x.1 (ly_Block b hj12) fl_Book_50 d_Book_cellOfText_52 hj.2.2.1.1 ?_
        refine dz_icmp_ge (tgt := 71) x.1 d_Book_cellOfText_55 (by decide) (by omega) (by omega) (fun hc55 => ?_) (fun hc55 => ?_)
        · refine dz_iinc (z := (j : Int) + 1) (ls' := [(0, .ref (b + 80)), (1, .int (dz_i p)), (2, .int (dz_i l9)), (3, .int (dz_i pl)), (4, .int (dz_i ((j : Int) + 1))), (5, .ref (b + (82 + 4 * j))), (6, .int (dz_i (((p - PG j) * T) + l9 - (LN j))))]) x.1 4 d_Book_cellOfText_71 rfl hN (by decide) (by omega) rfl ?_
          refine dz_goto (tgt := 3) x.1 d_Book_cellOfText_74 (by decide) ?_
          refine dz_take 5 (ls' := [(0, .ref (b + 80)), (1, .int (dz_i p)), (2, .int (dz_i l9)), (3, .int (dz_i pl)), (4, .int (dz_i ((j : Int) + 1)))]) rfl ?_
          have h9 := ih (j + 1) (by omega) (by rw [← hS]; simp only [sp_ctx]; rw [show (sp_fnd W T Kd Ls PG LN p l9 pl) j = none from if_neg (by omega)])
          rw [show ((j + 1 : Nat) : Int) = (j : Int) + 1 by omega] at h9
          exact h9
        · refine dz_aload x.1 5 d_Book_cellOfText_58 rfl ?_
          refine dz_iload x.1 6 d_Book_cellOfText_60 rfl ?_
          refine dz_iload_n x.1 3 d_Book_cellOfText_62 rfl rfl ?_
          refine dz_aload_n x.1 0 d_Book_cellOfText_63 rfl rfl ?_
          refine dz_geti (z := W) x.1 (ly_Book b) fl_Book_24 d_Book_cellOfText_64 KI.1 ?_
          refine ly_callV (rest := []) x cl_Book_60 (by have h9 := c_Block_cellOfLine l D Dt b sz I j hj12 (Kd j) hj.1 hj.2.1 W hW (Ls j) hj.2.2.1 hj.2.2.2.1 hj.2.2.2.2.1 ((p - PG j) * T + l9 - LN j).toNat (by omega) (hj.2.2.2.2.2.1 _ (by omega)) pl hpl; rw [show ((((p - PG j) * T + l9 - LN j).toNat : Nat) : Int) = ((p - PG j) * T) + l9 - (LN j) by omega] at h9; exact h9) (by decide) (ly_Block b hj12) rfl rfl rfl rfl (Nat.le_of_ble_eq_true rfl) d_Book_cellOfText_67 (fun v I' hp67 => ?_)
          obtain ⟨rfl, hp67I⟩ := hp67
          have hp67I := hp67I.symm
          subst hp67I
          show ly_V κ b sz I 70 [(0, .ref (b + 80)), (1, .int (dz_i p)), (2, .int (dz_i l9)), (3, .int (dz_i pl)), (4, .int (dz_i (j : Int))), (5, .ref (b + (82 + 4 * j))), (6, .int (dz_i (((p - PG j) * T) + l9 - (LN j))))] [.int (dz_i (sp_col W (Kd j) (Ls j) ((p - PG j) * T + l9 - LN j).toNat pl))]
          have hv9 : sp_ctx (sp_fnd W T Kd Ls PG LN p l9 pl) (k + 1) j = (sp_col W (Kd j) (Ls j) ((p - PG j) * T + l9 - LN j).toNat pl) := by simp only [sp_ctx]; rw [show (sp_fnd W T Kd Ls PG LN p l9 pl) j = some _ from if_pos (by omega)]
          exact ly_iret x d_Book_cellOfText_70 rfl ⟨by rw [← hS, hv9], rfl⟩
  show ly_V κ b sz I 0 [(0, .ref (b + 80)), (1, .int (dz_i p)), (2, .int (dz_i l9)), (3, .int (dz_i pl))] []
  refine dz_iconst x.1 d_Book_cellOfText_0 ?_
  refine dz_istore (ls' := [(0, .ref (b + 80)), (1, .int (dz_i p)), (2, .int (dz_i l9)), (3, .int (dz_i pl)), (4, .int (dz_i 0))]) x.1 d_Book_cellOfText_1 hN (by decide) rfl ?_
  exact loop nn 0 (by omega) rfl
