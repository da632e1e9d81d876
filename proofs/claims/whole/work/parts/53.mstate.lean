def sp_MB (b : Nat) (J : dz_Hp) (nb : Nat) (Bk : Nat → sp_Bk) : Prop := J (b + 130) 12 = (nb : Int) ∧ nb ≤ 12 ∧ ∀ j : Nat, j < nb → J (b + 137) (j : Int) = (Bk j).1 ∧ J (b + 138) (j : Int) = ((Bk j).2.length : Int) ∧ (∀ (i : Nat) (e : Int × Int), (Bk j).2[i]? = some e → J (b + 139) (240 * (j : Int) + (i : Int)) = e.1 ∧ J (b + 140) (240 * (j : Int) + (i : Int)) = e.2) ∧ sp_bok (Bk j)
def sp_tl (nx rs : Bool) : Int := if rs = true then 2 else if nx = true then 1 else 0
def sp_MH (b : Nat) (J : dz_Hp) (H : List Int) : Prop := J (b + 130) 17 = (H.length : Int) ∧ H.length ≤ 1200 ∧ (∀ (i : Nat) (e : Int), H[i]? = some e → J (b + 141) (i : Int) = e) ∧ (∀ e ∈ H, 0 ≤ e ∧ e ≤ 126) ∧ ∃ nx rs : Bool, J (b + 130) 28 = sp_tl nx rs
theorem sp_MB.fr {b : Nat} {I J : dz_Hp} {nb : Nat} {Bk : Nat → sp_Bk} (h : sp_MB b I nb Bk) (h1 : J (b + 130) 12 = I (b + 130) 12) (h2 : J (b + 137) = I (b + 137)) (h3 : J (b + 138) = I (b + 138)) (h4 : J (b + 139) = I (b + 139)) (h5 : J (b + 140) = I (b + 140)) : sp_MB b J nb Bk := by unfold sp_MB; rw [h1, h2, h3, h4, h5]; exact h
theorem sp_MH.fr {b : Nat} {I J : dz_Hp} {H : List Int} (h : sp_MH b I H) (h1 : J (b + 130) 17 = I (b + 130) 17) (h3 : J (b + 130) 28 = I (b + 130) 28) (h2 : J (b + 141) = I (b + 141)) : sp_MH b J H := by unfold sp_MH; rw [h1, h2, h3]; exact h
/-- the state of the reference -/
def sp_MO (b : Nat) (J : dz_Hp) (W T n : Int) (g : Int → Int) (c : Nat) (S : Nat → sp_Ru) (w : Int) (nb : Nat) (Bk : Nat → sp_Bk) (H : List Int) : Prop :=
  ((10 ≤ W ∧ W ≤ 40) ∧ (3 ≤ T ∧ T ≤ 19)) ∧ (J (b + 130) 1 = W ∧ J (b + 130) 2 = T + 1) ∧ sp_MT b J n g ∧ sp_MR b J c S ∧ (J (b + 130) 11 = w ∧ -1 ≤ w ∧ w ≤ 100) ∧ sp_MB b J nb Bk ∧ sp_MH b J H
section sp_mo_rows
variable {b : Nat} {I J : dz_Hp} {W T n : Int} {g : Int → Int} {c : Nat} {S : Nat → sp_Ru} {w : Int} {nb : Nat} {Bk : Nat → sp_Bk} {H : List Int}
/-- what is written in passing does not count -/
theorem sp_MO.scr (M : sp_MO b I W T n g c S w nb Bk H) (h1 : ∀ k : Int, k = 1 ∨ k = 2 ∨ k = 3 ∨ k = 5 ∨ k = 11 ∨ k = 12 ∨ k = 17 ∨ k = 28 → J (b + 130) k = I (b + 130) k) (h2 : ∀ q, b + 131 ≤ q → q ≤ b + 141 → J q = I q) : sp_MO b J W T n g c S w nb Bk H := by
  obtain ⟨a1, a2, a3, a4, a5, a6, a7⟩ := M
  exact ⟨a1, by rw [h1 1 (by omega), h1 2 (by omega)]; exact a2, a3.fr (h1 3 (by omega)) (h2 _ (by omega) (by omega)), a4.fr (h1 5 (by omega)) (fun q q1 q2 => h2 q (by omega) (by omega)), by rw [h1 11 (by omega)]; exact a5, a6.fr (h1 12 (by omega)) (h2 _ (by omega) (by omega)) (h2 _ (by omega) (by omega)) (h2 _ (by omega) (by omega)) (h2 _ (by omega) (by omega)), a7.fr (h1 17 (by omega)) (h1 28 (by omega)) (h2 _ (by omega) (by omega))⟩
theorem sp_MO.thr (M : sp_MO b I W T n g c S w nb Bk H) (v : Int) : sp_MO b (dz_up I (b + 130) 0 v) W T n g c S w nb Bk H := M.scr (fun k hk => dz_up_k _ _ _ (by omega)) (fun q h1 h2 => dz_up_n _ _ _ (by omega))
/-- another text -/
theorem sp_MO.txt (M : sp_MO b I W T n g c S w nb Bk H) {n' : Int} {g' : Int → Int} (h1 : ∀ k : Int, k = 1 ∨ k = 2 ∨ k = 5 ∨ k = 11 ∨ k = 12 ∨ k = 17 ∨ k = 28 → J (b + 130) k = I (b + 130) k) (h2 : ∀ q, b + 132 ≤ q → q ≤ b + 141 → J q = I q) (hT : sp_MT b J n' g') : sp_MO b J W T n' g' c S w nb Bk H := by
  obtain ⟨a1, a2, a3, a4, a5, a6, a7⟩ := M
  exact ⟨a1, by rw [h1 1 (by omega), h1 2 (by omega)]; exact a2, hT, a4.fr (h1 5 (by omega)) (fun q q1 q2 => h2 q (by omega) (by omega)), by rw [h1 11 (by omega)]; exact a5, a6.fr (h1 12 (by omega)) (h2 _ (by omega) (by omega)) (h2 _ (by omega) (by omega)) (h2 _ (by omega) (by omega)) (h2 _ (by omega) (by omega)), a7.fr (h1 17 (by omega)) (h1 28 (by omega)) (h2 _ (by omega) (by omega))⟩
theorem sp_MT_0 (h : J (b + 130) 3 = 0) : sp_MT b J 0 (fun _ => 0) := ⟨h, ⟨by omega, fun _ _ => rfl, fun j hj => by omega⟩, fun j h1 h2 => by omega⟩
end sp_mo_rows
theorem sp_tx_put {n : Int} {g : Int → Int} (h : sp_tx n g) (hn : n < 80) {ch : Int} (hc : 32 ≤ ch ∧ ch ≤ 126) : sp_tx (n + 1) (dz_u g n ch) := by
  obtain ⟨h1, h2, h3⟩ := h
  refine ⟨by omega, fun j hj => ?_, fun j hj => ?_⟩
  · rw [dz_u_n _ _ (by omega)]; exact h2 j (by omega)
  · by_cases e : j = n
    · rw [e, dz_u_s]; exact hc
    · rw [dz_u_n _ _ e]; exact h3 j (by omega)
set_option maxRecDepth 100000 in
set_option maxHeartbeats 4000000 in
theorem c_Model_thrown (l : Launch) (D : va_G) (Dt : Nat → ClassId) (b sz : Nat) (I : dz_Hp) (t : Int) (ht : I (b + 130) 0 = t) : ly_M l D Dt b sz y_Model_thrown b_Model_thrown 1 (some .int) 1 [.ref (b + 130)] I (fun v I' => v = some (.int (dz_i t)) ∧ I' = I) := by
  refine ly_enter R_Model (by decide) rfl (Nat.le_of_ble_eq_true rfl) (ly_cat _ 0 rfl) (fun κ x => ?_)
  have hN := ly_N x
  show ly_V κ b sz I 0 [(0, .ref (b + 130))] []
  refine dz_aload_n x.1 0 d_Model_thrown_0 rfl rfl ?_
  refine dz_geti (z := t) x.1 (ly_Model b) fl_Model_63 d_Model_thrown_1 ht ?_
  exact ly_iret x d_Model_thrown_4 rfl ⟨rfl, rfl⟩
set_option maxRecDepth 100000 in
set_option maxHeartbeats 4000000 in
theorem c_Model_type (l : Launch) (D : va_G) (Dt : Nat → ClassId) (b sz : Nat) (I : dz_Hp) (W T n : Int) (g : Int → Int) (c : Nat) (S : Nat → sp_Ru) (w : Int) (nb : Nat) (Bk : Nat → sp_Bk) (H : List Int) (MI : sp_MO b I W T n g c S w nb Bk H) (ch : Int) (hch : 0 ≤ ch ∧ ch < 65536) : ly_M l D Dt b sz y_Model_type b_Model_type 2 (some .int) 1 [.ref (b + 130), .int (dz_i ch)] I (fun v I' => sp_fr I I' (fun q => b + 130 ≤ q ∧ q < b + 145) ∧ (((ch < 32 ∨ 126 < ch) ∧ v = some (.int (dz_i 0)) ∧ I' (b + 130) 0 = 1 ∧ sp_MO b I' W T n g c S w nb Bk H) ∨ (¬ (ch < 32 ∨ 126 < ch) ∧ 80 ≤ n ∧ v = some (.int (dz_i 0)) ∧ I' (b + 130) 0 = 2 ∧ sp_MO b I' W T n g c S w nb Bk H) ∨ (¬ (ch < 32 ∨ 126 < ch) ∧ n < 80 ∧ v = some (.int (dz_i (n + 1))) ∧ I' (b + 130) 0 = 0 ∧ sp_MO b I' W T (n + 1) (dz_u g n ch) c S w nb Bk H))) := by
  refine ly_enter R_Model (by decide) rfl (Nat.le_of_ble_eq_true rfl) (ly_cat _ 0 rfl) (fun κ x => ?_)
  have hN := ly_N x
  obtain ⟨⟨hW, hT⟩, hWT, TI, RI, hw1, BI, HI⟩ := id MI
  have hn9 := TI.2.1.1
  have hc24 := RI.2.1
  have hnb := BI.2.1
  have hHl := HI.2.1
  show ly_V κ b sz I 0 [(0, .ref (b + 130)), (1, .int (dz_i ch))] []
  refine dz_aload_n x.1 0 d_Model_type_0 rfl rfl ?_
  refine dz_iload_n x.1 1 d_Model_type_1 rfl rfl ?_
  refine dz_bipush x.1 d_Model_type_2 (by decide) ?_
  refine dz_icmp_lt (tgt := 13) x.1 d_Model_type_4 (by decide) (by omega) (by omega) (fun hc4 => ?_) (fun hc4 => ?_)
  · refine dz_iconst x.1 d_Model_type_13 ?_
    refine dz_goto (tgt := 31) x.1 d_Model_type_14 (by decide) ?_
    refine dz_puti x.1 (ly_Model b) fl_Model_63 fp_Model_0 d_Model_type_31 ?_
    refine dz_aload_n x.1 0 d_Model_type_34 rfl rfl ?_
    refine dz_geti (z := 1) x.1 (ly_Model b) fl_Model_63 d_Model_type_35 (dz_up_s _ _ _ _) ?_
    refine dz_if_eq (tgt := 43) x.1 d_Model_type_38 (by decide) (by omega) (fun hc38 => by exfalso; omega) (fun hc38 => ?_)
    refine dz_iconst x.1 d_Model_type_41 ?_
    exact ly_iret x d_Model_type_42 rfl ⟨((sp_fr.rf (P := fun q => b + 130 ≤ q ∧ q < b + 145)).up (show b + 130 ≤ b + 130 ∧ b + 130 < b + 145 by omega)), Or.inl ⟨by omega, rfl, dz_up_s _ _ _ _, MI.thr _⟩⟩
  · refine dz_iload_n x.1 1 d_Model_type_7 rfl rfl ?_
    refine dz_bipush x.1 d_Model_type_8 (by decide) ?_
    refine dz_icmp_le (tgt := 17) x.1 d_Model_type_10 (by decide) (by omega) (by omega) (fun hc10 => ?_) (fun hc10 => ?_)
    · refine dz_aload_n x.1 0 d_Model_type_17 rfl rfl ?_
      refine dz_geti (z := n) x.1 (ly_Model b) fl_Model_80 d_Model_type_18 TI.1 ?_
      refine dz_bipush x.1 d_Model_type_21 (by decide) ?_
      refine dz_icmp_ne (tgt := 30) x.1 d_Model_type_23 (by decide) (by omega) (by omega) (fun hc23 => ?_) (fun hc23 => ?_)
      · refine dz_iconst x.1 d_Model_type_30 ?_
        refine dz_puti x.1 (ly_Model b) fl_Model_63 fp_Model_0 d_Model_type_31 ?_
        refine dz_aload_n x.1 0 d_Model_type_34 rfl rfl ?_
        refine dz_geti (z := 0) x.1 (ly_Model b) fl_Model_63 d_Model_type_35 (dz_up_s _ _ _ _) ?_
        refine dz_if_eq (tgt := 43) x.1 d_Model_type_38 (by decide) (by omega) (fun hc38 => ?_) (fun hc38 => by exfalso; omega)
        refine dz_aload_n x.1 0 d_Model_type_43 rfl rfl ?_
        refine dz_getr x.1 (ly_Model b) fl_Model_7 (lr_Model_4 b) d_Model_type_44 ?_
        refine dz_aload_n x.1 0 d_Model_type_47 rfl rfl ?_
        refine dz_geti (z := n) x.1 (ly_Model b) fl_Model_80 d_Model_type_48 (by rw [dz_up_k _ _ _ (by omega)]; exact TI.1) ?_
        refine dz_iload_n x.1 1 d_Model_type_51 rfl rfl ?_
        refine dz_cast x.1 (ly_MTyped b) (by decide) (by omega) (by omega) d_Model_type_52 ?_
        refine dz_aload_n x.1 0 d_Model_type_53 rfl rfl ?_
        refine dz_dup x.1 d_Model_type_54 rfl ?_
        refine dz_geti (z := n) x.1 (ly_Model b) fl_Model_80 d_Model_type_55 (by rw [dz_up_n _ _ _ (by omega)]; rw [dz_up_k _ _ _ (by omega)]; exact TI.1) ?_
        refine dz_iconst x.1 d_Model_type_58 ?_
        refine dz_iadd (z := n + 1) x.1 d_Model_type_59 (by omega) ?_
        refine dz_puti x.1 (ly_Model b) fl_Model_80 fp_Model_3 d_Model_type_60 ?_
        refine dz_aload_n x.1 0 d_Model_type_63 rfl rfl ?_
        refine dz_geti (z := n + 1) x.1 (ly_Model b) fl_Model_80 d_Model_type_64 (dz_up_s _ _ _ _) ?_
        refine ly_iret x d_Model_type_67 rfl ⟨((((sp_fr.rf (P := fun q => b + 130 ≤ q ∧ q < b + 145)).up (show b + 130 ≤ b + 130 ∧ b + 130 < b + 145 by omega)).up (show b + 130 ≤ b + 131 ∧ b + 131 < b + 145 by omega)).up (show b + 130 ≤ b + 130 ∧ b + 130 < b + 145 by omega)), Or.inr (Or.inr ⟨by omega, by omega, rfl, by (repeat (first | rw [dz_up_s] | rw [dz_up_k _ _ _ (by omega)] | rw [dz_up_n _ _ _ (by omega)])), MI.txt (fun k hk => by (repeat (first | rw [dz_up_s] | rw [dz_up_k _ _ _ (by omega)] | rw [dz_up_n _ _ _ (by omega)]))) (fun q h1 h2 => by (repeat (first | rw [dz_up_s] | rw [dz_up_k _ _ _ (by omega)] | rw [dz_up_n _ _ _ (by omega)]))) ⟨dz_up_s _ _ _ _, sp_tx_put TI.2.1 (by omega) (by omega), fun j j1 j2 => ?_⟩⟩)⟩
        rw [dz_up_n _ _ _ (by omega)]
        by_cases e : j = n
        · rw [e, dz_up_s, dz_u_s]
        · rw [dz_up_k _ _ _ e, dz_u_n _ _ e, dz_up_n _ _ _ (by omega)]; exact TI.2.2 j j1 (by omega)
      · refine dz_iconst x.1 d_Model_type_26 ?_
        refine dz_goto (tgt := 31) x.1 d_Model_type_27 (by decide) ?_
        refine dz_puti x.1 (ly_Model b) fl_Model_63 fp_Model_0 d_Model_type_31 ?_
        refine dz_aload_n x.1 0 d_Model_type_34 rfl rfl ?_
        refine dz_geti (z := 2) x.1 (ly_Model b) fl_Model_63 d_Model_type_35 (dz_up_s _ _ _ _) ?_
        refine dz_if_eq (tgt := 43) x.1 d_Model_type_38 (by decide) (by omega) (fun hc38 => by exfalso; omega) (fun hc38 => ?_)
        refine dz_iconst x.1 d_Model_type_41 ?_
        exact ly_iret x d_Model_type_42 rfl ⟨((sp_fr.rf (P := fun q => b + 130 ≤ q ∧ q < b + 145)).up (show b + 130 ≤ b + 130 ∧ b + 130 < b + 145 by omega)), Or.inr (Or.inl ⟨by omega, by omega, rfl, dz_up_s _ _ _ _, MI.thr _⟩)⟩
    · refine dz_iconst x.1 d_Model_type_13 ?_
      refine dz_goto (tgt := 31) x.1 d_Model_type_14 (by decide) ?_
      refine dz_puti x.1 (ly_Model b) fl_Model_63 fp_Model_0 d_Model_type_31 ?_
      refine dz_aload_n x.1 0 d_Model_type_34 rfl rfl ?_
      refine dz_geti (z := 1) x.1 (ly_Model b) fl_Model_63 d_Model_type_35 (dz_up_s _ _ _ _) ?_
      refine dz_if_eq (tgt := 43) x.1 d_Model_type_38 (by decide) (by omega) (fun hc38 => by exfalso; omega) (fun hc38 => ?_)
      refine dz_iconst x.1 d_Model_type_41 ?_
      exact ly_iret x d_Model_type_42 rfl ⟨((sp_fr.rf (P := fun q => b + 130 ≤ q ∧ q < b + 145)).up (show b + 130 ≤ b + 130 ∧ b + 130 < b + 145 by omega)), Or.inl ⟨by omega, rfl, dz_up_s _ _ _ _, MI.thr _⟩⟩
set_option maxRecDepth 100000 in
set_option maxHeartbeats 4000000 in
theorem c_Model_wipe (l : Launch) (D : va_G) (Dt : Nat → ClassId) (b sz : Nat) (I : dz_Hp) (W T n : Int) (g : Int → Int) (c : Nat) (S : Nat → sp_Ru) (w : Int) (nb : Nat) (Bk : Nat → sp_Bk) (H : List Int) (MI : sp_MO b I W T n g c S w nb Bk H)  : ly_M l D Dt b sz y_Model_wipe b_Model_wipe 1 none 1 [.ref (b + 130)] I (fun v I' => v = none ∧ sp_fr I I' (fun q => b + 130 ≤ q ∧ q < b + 145) ∧ I' (b + 130) 0 = 0 ∧ sp_MO b I' W T 0 (fun _ => 0) c S w nb Bk H) := by
  refine ly_enter R_Model (by decide) rfl (Nat.le_of_ble_eq_true rfl) (ly_cat _ 0 rfl) (fun κ x => ?_)
  have hN := ly_N x
  obtain ⟨⟨hW, hT⟩, hWT, TI, RI, hw1, BI, HI⟩ := id MI
  have hn9 := TI.2.1.1
  have hc24 := RI.2.1
  have hnb := BI.2.1
  have hHl := HI.2.1
  show ly_V κ b sz I 0 [(0, .ref (b + 130))] []
  refine dz_aload_n x.1 0 d_Model_wipe_0 rfl rfl ?_
  refine dz_iconst x.1 d_Model_wipe_1 ?_
  refine dz_puti x.1 (ly_Model b) fl_Model_63 fp_Model_0 d_Model_wipe_2 ?_
  refine dz_aload_n x.1 0 d_Model_wipe_5 rfl rfl ?_
  refine dz_iconst x.1 d_Model_wipe_6 ?_
  refine dz_puti x.1 (ly_Model b) fl_Model_80 fp_Model_3 d_Model_wipe_7 ?_
  exact ly_vret x d_Model_wipe_10 ⟨rfl, (((sp_fr.rf (P := fun q => b + 130 ≤ q ∧ q < b + 145)).up (show b + 130 ≤ b + 130 ∧ b + 130 < b + 145 by omega)).up (show b + 130 ≤ b + 130 ∧ b + 130 < b + 145 by omega)), by rw [dz_up_k _ _ _ (by decide), dz_up_s], MI.txt (fun k hk => by (repeat (first | rw [dz_up_s] | rw [dz_up_k _ _ _ (by omega)] | rw [dz_up_n _ _ _ (by omega)]))) (fun q h1 h2 => by (repeat rw [dz_up_n _ _ _ (by omega)])) (sp_MT_0 (dz_up_s _ _ _ _))⟩
set_option maxRecDepth 100000 in
set_option maxHeartbeats 4000000 in
theorem c_Model_wrong (l : Launch) (D : va_G) (Dt : Nat → ClassId) (b sz : Nat) (I : dz_Hp) (W T n : Int) (g : Int → Int) (c : Nat) (S : Nat → sp_Ru) (w : Int) (nb : Nat) (Bk : Nat → sp_Bk) (H : List Int) (MI : sp_MO b I W T n g c S w nb Bk H)  : ly_M l D Dt b sz y_Model_wrong b_Model_wrong 1 (some .int) 1 [.ref (b + 130)] I (fun v I' => v = some (.int (dz_i w)) ∧ sp_fr I I' (fun q => b + 130 ≤ q ∧ q < b + 145) ∧ sp_MO b I' W T n g c S w nb Bk H) := by
  refine ly_enter R_Model (by decide) rfl (Nat.le_of_ble_eq_true rfl) (ly_cat _ 0 rfl) (fun κ x => ?_)
  have hN := ly_N x
  obtain ⟨⟨hW, hT⟩, hWT, TI, RI, hw1, BI, HI⟩ := id MI
  have hn9 := TI.2.1.1
  have hc24 := RI.2.1
  have hnb := BI.2.1
  have hHl := HI.2.1
  show ly_V κ b sz I 0 [(0, .ref (b + 130))] []
  refine dz_aload_n x.1 0 d_Model_wrong_0 rfl rfl ?_
  refine dz_iconst x.1 d_Model_wrong_1 ?_
  refine dz_puti x.1 (ly_Model b) fl_Model_63 fp_Model_0 d_Model_wrong_2 ?_
  refine dz_aload_n x.1 0 d_Model_wrong_5 rfl rfl ?_
  refine dz_geti (z := w) x.1 (ly_Model b) fl_Model_29 d_Model_wrong_6 (by rw [dz_up_k _ _ _ (by omega)]; exact hw1.1) ?_
  exact ly_iret x d_Model_wrong_9 rfl ⟨rfl, ((sp_fr.rf (P := fun q => b + 130 ≤ q ∧ q < b + 145)).up (show b + 130 ≤ b + 130 ∧ b + 130 < b + 145 by omega)), MI.thr _⟩
set_option maxRecDepth 100000 in
set_option maxHeartbeats 4000000 in
theorem c_Model_clear (l : Launch) (D : va_G) (Dt : Nat → ClassId) (b sz : Nat) (I : dz_Hp) (W T n : Int) (g : Int → Int) (c : Nat) (S : Nat → sp_Ru) (w : Int) (nb : Nat) (Bk : Nat → sp_Bk) (H : List Int) (MI : sp_MO b I W T n g c S w nb Bk H)  : ly_M l D Dt b sz y_Model_clear b_Model_clear 1 none 1 [.ref (b + 130)] I (fun v I' => v = none ∧ sp_fr I I' (fun q => b + 130 ≤ q ∧ q < b + 145) ∧ sp_MO b I' W T n g c S w 0 Bk H) := by
  refine ly_enter R_Model (by decide) rfl (Nat.le_of_ble_eq_true rfl) (ly_cat _ 0 rfl) (fun κ x => ?_)
  have hN := ly_N x
  obtain ⟨⟨hW, hT⟩, hWT, TI, RI, hw1, BI, HI⟩ := id MI
  have hn9 := TI.2.1.1
  have hc24 := RI.2.1
  have hnb := BI.2.1
  have hHl := HI.2.1
  show ly_V κ b sz I 0 [(0, .ref (b + 130))] []
  refine dz_aload_n x.1 0 d_Model_clear_0 rfl rfl ?_
  refine dz_iconst x.1 d_Model_clear_1 ?_
  refine dz_puti x.1 (ly_Model b) fl_Model_63 fp_Model_0 d_Model_clear_2 ?_
  refine dz_aload_n x.1 0 d_Model_clear_5 rfl rfl ?_
  refine dz_iconst x.1 d_Model_clear_6 ?_
  refine dz_puti x.1 (ly_Model b) fl_Model_100 fp_Model_12 d_Model_clear_7 ?_
  exact ly_vret x d_Model_clear_10 ⟨rfl, (((sp_fr.rf (P := fun q => b + 130 ≤ q ∧ q < b + 145)).up (show b + 130 ≤ b + 130 ∧ b + 130 < b + 145 by omega)).up (show b + 130 ≤ b + 130 ∧ b + 130 < b + 145 by omega)), by
    obtain ⟨a1, a2, a3, a4, a5, a6, a7⟩ := MI.thr 0
    exact ⟨a1, ⟨by rw [dz_up_k _ _ _ (by decide)]; exact a2.1, by rw [dz_up_k _ _ _ (by decide)]; exact a2.2⟩, a3.fr (dz_up_k _ _ _ (by decide)) (dz_up_n _ _ _ (by omega)), a4.fr (dz_up_k _ _ _ (by decide)) (fun q h1 h2 => dz_up_n _ _ _ (by omega)), by rw [dz_up_k _ _ _ (by decide)]; exact a5, ⟨dz_up_s _ _ _ _, by omega, fun j hj => by omega⟩, a7.fr (dz_up_k _ _ _ (by decide)) (dz_up_k _ _ _ (by decide)) (dz_up_n _ _ _ (by omega))⟩⟩
set_option maxRecDepth 100000 in
set_option maxHeartbeats 4000000 in
theorem c_Model_noBlock (l : Launch) (D : va_G) (Dt : Nat → ClassId) (b sz : Nat) (I : dz_Hp) (nb : Nat) (hb : I (b + 130) 12 = (nb : Int)) (hb2 : nb ≤ 12) (q : Int) (hq : -2147483648 ≤ q ∧ q < 2147483648) : ly_M l D Dt b sz y_Model_noBlock b_Model_noBlock 2 (some .boolean) 1 [.ref (b + 130), .int (dz_i q)] I (fun v I' => v = some (.int (dz_i (if ¬ (0 ≤ q ∧ q < (nb : Int)) then 1 else 0))) ∧ I' = I) := by
  refine ly_enter R_Model (by decide) rfl (Nat.le_of_ble_eq_true rfl) (ly_cat _ 0 rfl) (fun κ x => ?_)
  have hN := ly_N x
  show ly_V κ b sz I 0 [(0, .ref (b + 130)), (1, .int (dz_i q))] []
  refine dz_iload_n x.1 1 d_Model_noBlock_0 rfl rfl ?_
  refine dz_if_lt (tgt := 12) x.1 d_Model_noBlock_1 (by decide) (by omega) (fun hc1 => ?_) (fun hc1 => ?_)
  · refine dz_iconst x.1 d_Model_noBlock_12 ?_
    refine dz_goto (tgt := 17) x.1 d_Model_noBlock_13 (by decide) ?_
    exact ly_iret x d_Model_noBlock_17 (dz_nbo (by omega)) ⟨by first | (exfalso; omega) | rw [if_pos (by omega)] | rw [if_neg (by omega)], rfl⟩
  · refine dz_iload_n x.1 1 d_Model_noBlock_4 rfl rfl ?_
    refine dz_aload_n x.1 0 d_Model_noBlock_5 rfl rfl ?_
    refine dz_geti (z := (nb : Int)) x.1 (ly_Model b) fl_Model_100 d_Model_noBlock_6 hb ?_
    refine dz_icmp_lt (tgt := 16) x.1 d_Model_noBlock_9 (by decide) (by omega) (by omega) (fun hc9 => ?_) (fun hc9 => ?_)
    · refine dz_iconst x.1 d_Model_noBlock_16 ?_
      exact ly_iret x d_Model_noBlock_17 (dz_nbo (by omega)) ⟨by first | (exfalso; omega) | rw [if_pos (by omega)] | rw [if_neg (by omega)], rfl⟩
    · refine dz_iconst x.1 d_Model_noBlock_12 ?_
      refine dz_goto (tgt := 17) x.1 d_Model_noBlock_13 (by decide) ?_
      exact ly_iret x d_Model_noBlock_17 (dz_nbo (by omega)) ⟨by first | (exfalso; omega) | rw [if_pos (by omega)] | rw [if_neg (by omega)], rfl⟩
set_option maxRecDepth 100000 in
set_option maxHeartbeats 4000000 in
theorem c_Model_heard (l : Launch) (D : va_G) (Dt : Nat → ClassId) (b sz : Nat) (I : dz_Hp) (W T n : Int) (g : Int → Int) (c : Nat) (S : Nat → sp_Ru) (w : Int) (nb : Nat) (Bk : Nat → sp_Bk) (H : List Int) (MI : sp_MO b I W T n g c S w nb Bk H) (q : Int) (hq : -2147483648 ≤ q ∧ q < 2147483648) : ly_M l D Dt b sz y_Model_heard b_Model_heard 2 (some .char) 1 [.ref (b + 130), .int (dz_i q)] I (fun v I' => v = some (.int (dz_i (if 0 ≤ q ∧ q < (H.length : Int) then H.getD q.toNat 0 else 32))) ∧ sp_fr I I' (fun q => b + 130 ≤ q ∧ q < b + 145) ∧ sp_MO b I' W T n g c S w nb Bk H) := by
  refine ly_enter R_Model (by decide) rfl (Nat.le_of_ble_eq_true rfl) (ly_cat _ 0 rfl) (fun κ x => ?_)
  have hN := ly_N x
  obtain ⟨⟨hW, hT⟩, hWT, TI, RI, hw1, BI, HI⟩ := id MI
  have hn9 := TI.2.1.1
  have hc24 := RI.2.1
  have hnb := BI.2.1
  have hHl := HI.2.1
  show ly_V κ b sz I 0 [(0, .ref (b + 130)), (1, .int (dz_i q))] []
  refine dz_aload_n x.1 0 d_Model_heard_0 rfl rfl ?_
  refine dz_iconst x.1 d_Model_heard_1 ?_
  refine dz_puti x.1 (ly_Model b) fl_Model_63 fp_Model_0 d_Model_heard_2 ?_
  refine dz_iload_n x.1 1 d_Model_heard_5 rfl rfl ?_
  refine dz_if_lt (tgt := 17) x.1 d_Model_heard_6 (by decide) (by omega) (fun hc6 => ?_) (fun hc6 => ?_)
  · refine dz_bipush x.1 d_Model_heard_17 (by decide) ?_
    refine dz_goto (tgt := 28) x.1 d_Model_heard_19 (by decide) ?_
    have hv9 : (if 0 ≤ q ∧ q < (H.length : Int) then H.getD q.toNat 0 else 32) = 32 := by rw [if_neg (by omega)]
    exact ly_iret x d_Model_heard_28 (dz_nch (by omega)) ⟨by rw [hv9], ((sp_fr.rf (P := fun q => b + 130 ≤ q ∧ q < b + 145)).up (show b + 130 ≤ b + 130 ∧ b + 130 < b + 145 by omega)), MI.thr _⟩
  · refine dz_iload_n x.1 1 d_Model_heard_9 rfl rfl ?_
    refine dz_aload_n x.1 0 d_Model_heard_10 rfl rfl ?_
    refine dz_geti (z := (H.length : Int)) x.1 (ly_Model b) fl_Model_142 d_Model_heard_11 (by rw [dz_up_k _ _ _ (by omega)]; exact HI.1) ?_
    refine dz_icmp_lt (tgt := 22) x.1 d_Model_heard_14 (by decide) (by omega) (by omega) (fun hc14 => ?_) (fun hc14 => ?_)
    · have hql : q.toNat < H.length := by omega
      have hqe : H[q.toNat]? = some (H.getD q.toNat 0) := by rw [List.getD_eq_getElem?_getD, List.getElem?_eq_getElem hql]; rfl
      have hqr := HI.2.2.2.1 _ (List.mem_of_getElem? hqe)
      refine dz_aload_n x.1 0 d_Model_heard_22 rfl rfl ?_
      refine dz_getr x.1 (ly_Model b) fl_Model_45 (lr_Model_18 b) d_Model_heard_23 ?_
      refine dz_iload_n x.1 1 d_Model_heard_26 rfl rfl ?_
      refine dz_cald (w := (H.getD q.toNat 0)) x.1 (ly_MHeard b) (by decide) (by omega) d_Model_heard_27 (by rw [dz_up_n _ _ _ (by omega)]; exact (by have h9 := HI.2.2.1 q.toNat _ hqe; rw [show ((q.toNat : Nat) : Int) = q by omega] at h9; exact h9)) ?_
      have hv9 : (if 0 ≤ q ∧ q < (H.length : Int) then H.getD q.toNat 0 else 32) = (H.getD q.toNat 0) := by rw [if_pos (by omega)]
      exact ly_iret x d_Model_heard_28 (dz_nch (by omega)) ⟨by rw [hv9], ((sp_fr.rf (P := fun q => b + 130 ≤ q ∧ q < b + 145)).up (show b + 130 ≤ b + 130 ∧ b + 130 < b + 145 by omega)), MI.thr _⟩
    · refine dz_bipush x.1 d_Model_heard_17 (by decide) ?_
      refine dz_goto (tgt := 28) x.1 d_Model_heard_19 (by decide) ?_
      have hv9 : (if 0 ≤ q ∧ q < (H.length : Int) then H.getD q.toNat 0 else 32) = 32 := by rw [if_neg (by omega)]
      exact ly_iret x d_Model_heard_28 (dz_nch (by omega)) ⟨by rw [hv9], ((sp_fr.rf (P := fun q => b + 130 ≤ q ∧ q < b + 145)).up (show b + 130 ≤ b + 130 ∧ b + 130 < b + 145 by omega)), MI.thr _⟩
set_option maxRecDepth 100000 in
set_option maxHeartbeats 4000000 in
theorem c_Model_size (l : Launch) (D : va_G) (Dt : Nat → ClassId) (b sz : Nat) (I : dz_Hp) (W T n : Int) (g : Int → Int) (c : Nat) (S : Nat → sp_Ru) (w : Int) (nb : Nat) (Bk : Nat → sp_Bk) (H : List Int) (MI : sp_MO b I W T n g c S w nb Bk H) (q : Int) (hq : -2147483648 ≤ q ∧ q < 2147483648) : ly_M l D Dt b sz y_Model_size b_Model_size 2 (some .int) 2 [.ref (b + 130), .int (dz_i q)] I (fun v I' => sp_fr I I' (fun q => b + 130 ≤ q ∧ q < b + 145) ∧ sp_MO b I' W T n g c S w nb Bk H ∧ (((0 ≤ q ∧ q < (nb : Int)) ∧ v = some (.int (dz_i ((Bk q.toNat).2.length : Int))) ∧ I' (b + 130) 0 = 0) ∨ (¬ (0 ≤ q ∧ q < (nb : Int)) ∧ I' (b + 130) 0 = 1 ∧ v = some (.int (dz_i 0))))) := by
  refine ly_enter R_Model (by decide) rfl (Nat.le_of_ble_eq_true rfl) (ly_cat _ 0 rfl) (fun κ x => ?_)
  have hN := ly_N x
  obtain ⟨⟨hW, hT⟩, hWT, TI, RI, hw1, BI, HI⟩ := id MI
  have hn9 := TI.2.1.1
  have hc24 := RI.2.1
  have hnb := BI.2.1
  have hHl := HI.2.1
  show ly_V κ b sz I 0 [(0, .ref (b + 130)), (1, .int (dz_i q))] []
  refine dz_aload_n x.1 0 d_Model_size_0 rfl rfl ?_
  refine dz_aload_n x.1 0 d_Model_size_1 rfl rfl ?_
  refine dz_iload_n x.1 1 d_Model_size_2 rfl rfl ?_
  refine ly_callV (rest := [.ref (b + 130)]) x cl_Model_135 (c_Model_noBlock l D Dt b sz I nb BI.1 hnb q hq) (by decide) (ly_Model b) rfl rfl rfl rfl (Nat.le_of_ble_eq_true rfl) d_Model_size_3 (fun v I' hp3 => ?_)
  obtain ⟨rfl, hp3I⟩ := hp3
  have hp3I := hp3I.symm
  subst hp3I
  show ly_V κ b sz I 6 [(0, .ref (b + 130)), (1, .int (dz_i q))] [.int (dz_i (if ¬ (0 ≤ q ∧ q < (nb : Int)) then 1 else 0)), .ref (b + 130)]
  refine dz_if_eq (tgt := 13) x.1 d_Model_size_6 (by decide) (dz_br _) (fun hc6 => ?_) (fun hc6 => ?_)
  · have hc6 : ¬ (¬ (0 ≤ q ∧ q < (nb : Int))) := dz_bf hc6
    refine dz_iconst x.1 d_Model_size_13 ?_
    refine dz_puti x.1 (ly_Model b) fl_Model_63 fp_Model_0 d_Model_size_14 ?_
    refine dz_aload_n x.1 0 d_Model_size_17 rfl rfl ?_
    refine dz_geti (z := 0) x.1 (ly_Model b) fl_Model_63 d_Model_size_18 (dz_up_s _ _ _ _) ?_
    refine dz_if_ne (tgt := 33) x.1 d_Model_size_21 (by decide) (by omega) (fun hc21 => by exfalso; omega) (fun hc21 => ?_)
    refine dz_aload_n x.1 0 d_Model_size_24 rfl rfl ?_
    refine dz_getr x.1 (ly_Model b) fl_Model_36 (lr_Model_14 b) d_Model_size_25 ?_
    refine dz_iload_n x.1 1 d_Model_size_28 rfl rfl ?_
    refine dz_iald (w := ((Bk q.toNat).2.length : Int)) x.1 (ly_MSizes b) (by decide) (by omega) d_Model_size_29 (by rw [dz_up_n _ _ _ (by omega)]; exact (by have h9 := (BI.2.2 q.toNat (by omega)).2.1; rw [show ((q.toNat : Nat) : Int) = q by omega] at h9; exact h9)) ?_
    refine dz_goto (tgt := 34) x.1 d_Model_size_30 (by decide) ?_
    exact ly_iret x d_Model_size_34 rfl ⟨((sp_fr.rf (P := fun q => b + 130 ≤ q ∧ q < b + 145)).up (show b + 130 ≤ b + 130 ∧ b + 130 < b + 145 by omega)), MI.thr _, Or.inl ⟨by omega, rfl, dz_up_s _ _ _ _⟩⟩
  · have hc6 : ¬ (0 ≤ q ∧ q < (nb : Int)) := dz_bt hc6
    refine dz_iconst x.1 d_Model_size_9 ?_
    refine dz_goto (tgt := 14) x.1 d_Model_size_10 (by decide) ?_
    refine dz_puti x.1 (ly_Model b) fl_Model_63 fp_Model_0 d_Model_size_14 ?_
    refine dz_aload_n x.1 0 d_Model_size_17 rfl rfl ?_
    refine dz_geti (z := 1) x.1 (ly_Model b) fl_Model_63 d_Model_size_18 (dz_up_s _ _ _ _) ?_
    refine dz_if_ne (tgt := 33) x.1 d_Model_size_21 (by decide) (by omega) (fun hc21 => ?_) (fun hc21 => by exfalso; omega)
    refine dz_iconst x.1 d_Model_size_33 ?_
    exact ly_iret x d_Model_size_34 rfl ⟨((sp_fr.rf (P := fun q => b + 130 ≤ q ∧ q < b + 145)).up (show b + 130 ≤ b + 130 ∧ b + 130 < b + 145 by omega)), MI.thr _, Or.inr ⟨hc6, dz_up_s _ _ _ _, rfl⟩⟩
set_option maxRecDepth 100000 in
set_option maxHeartbeats 4000000 in
theorem c_Model_cell (l : Launch) (D : va_G) (Dt : Nat → ClassId) (b sz : Nat) (I : dz_Hp) (W T n : Int) (g : Int → Int) (c : Nat) (S : Nat → sp_Ru) (w : Int) (nb : Nat) (Bk : Nat → sp_Bk) (H : List Int) (MI : sp_MO b I W T n g c S w nb Bk H) (q : Int) (hq : -2147483648 ≤ q ∧ q < 2147483648) (i9 : Int) (hi9 : -2147483648 ≤ i9 ∧ i9 < 2147483648) : ly_M l D Dt b sz y_Model_cell b_Model_cell 3 (some .int) 2 [.ref (b + 130), .int (dz_i q), .int (dz_i i9)] I (fun v I' => sp_fr I I' (fun q => b + 130 ≤ q ∧ q < b + 145) ∧ sp_MO b I' W T n g c S w nb Bk H ∧ (((0 ≤ q ∧ q < (nb : Int) ∧ 0 ≤ i9 ∧ i9 < ((Bk q.toNat).2.length : Int)) ∧ v = some (.int (dz_i (((Bk q.toNat).2.getD i9.toNat (0, 0)).1 + 64 * ((Bk q.toNat).2.getD i9.toNat (0, 0)).2))) ∧ I' (b + 130) 0 = 0) ∨ (¬ (0 ≤ q ∧ q < (nb : Int) ∧ 0 ≤ i9 ∧ i9 < ((Bk q.toNat).2.length : Int)) ∧ I' (b + 130) 0 = 1 ∧ v = some (.int (dz_i 0))))) := by
  refine ly_enter R_Model (by decide) rfl (Nat.le_of_ble_eq_true rfl) (ly_cat _ 0 rfl) (fun κ x => ?_)
  have hN := ly_N x
  obtain ⟨⟨hW, hT⟩, hWT, TI, RI, hw1, BI, HI⟩ := id MI
  have hn9 := TI.2.1.1
  have hc24 := RI.2.1
  have hnb := BI.2.1
  have hHl := HI.2.1
  show ly_V κ b sz I 0 [(0, .ref (b + 130)), (1, .int (dz_i q)), (2, .int (dz_i i9))] []
  refine dz_aload_n x.1 0 d_Model_cell_0 rfl rfl ?_
  refine dz_aload_n x.1 0 d_Model_cell_1 rfl rfl ?_
  refine dz_iload_n x.1 1 d_Model_cell_2 rfl rfl ?_
  refine ly_callV (rest := [.ref (b + 130)]) x cl_Model_135 (c_Model_noBlock l D Dt b sz I nb BI.1 hnb q hq) (by decide) (ly_Model b) rfl rfl rfl rfl (Nat.le_of_ble_eq_true rfl) d_Model_cell_3 (fun v I' hp3 => ?_)
  obtain ⟨rfl, hp3I⟩ := hp3
  have hp3I := hp3I.symm
  subst hp3I
  show ly_V κ b sz I 6 [(0, .ref (b + 130)), (1, .int (dz_i q)), (2, .int (dz_i i9))] [.int (dz_i (if ¬ (0 ≤ q ∧ q < (nb : Int)) then 1 else 0)), .ref (b + 130)]
  refine dz_if_ne (tgt := 35) x.1 d_Model_cell_6 (by decide) (dz_br _) (fun hc6 => ?_) (fun hc6 => ?_)
  · have hc6 : ¬ (0 ≤ q ∧ q < (nb : Int)) := dz_bt hc6
    refine dz_iconst x.1 d_Model_cell_35 ?_
    refine dz_goto (tgt := 40) x.1 d_Model_cell_36 (by decide) ?_
    refine dz_puti x.1 (ly_Model b) fl_Model_63 fp_Model_0 d_Model_cell_40 ?_
    refine dz_aload_n x.1 0 d_Model_cell_43 rfl rfl ?_
    refine dz_geti (z := 1) x.1 (ly_Model b) fl_Model_63 d_Model_cell_44 (dz_up_s _ _ _ _) ?_
    refine dz_if_ne (tgt := 81) x.1 d_Model_cell_47 (by decide) (by omega) (fun hc47 => ?_) (fun hc47 => by exfalso; omega)
    refine dz_iconst x.1 d_Model_cell_81 ?_
    exact ly_iret x d_Model_cell_82 rfl ⟨((sp_fr.rf (P := fun q => b + 130 ≤ q ∧ q < b + 145)).up (show b + 130 ≤ b + 130 ∧ b + 130 < b + 145 by omega)), MI.thr _, Or.inr ⟨by omega, dz_up_s _ _ _ _, rfl⟩⟩
  · have hc6 : ¬ (¬ (0 ≤ q ∧ q < (nb : Int))) := dz_bf hc6
    have hl200 := (BI.2.2 q.toNat (by omega)).2.2.2.2.1
    refine dz_iload_n x.1 2 d_Model_cell_9 rfl rfl ?_
    refine dz_if_lt (tgt := 35) x.1 d_Model_cell_10 (by decide) (by omega) (fun hc10 => ?_) (fun hc10 => ?_)
    · refine dz_iconst x.1 d_Model_cell_35 ?_
      refine dz_goto (tgt := 40) x.1 d_Model_cell_36 (by decide) ?_
      refine dz_puti x.1 (ly_Model b) fl_Model_63 fp_Model_0 d_Model_cell_40 ?_
      refine dz_aload_n x.1 0 d_Model_cell_43 rfl rfl ?_
      refine dz_geti (z := 1) x.1 (ly_Model b) fl_Model_63 d_Model_cell_44 (dz_up_s _ _ _ _) ?_
      refine dz_if_ne (tgt := 81) x.1 d_Model_cell_47 (by decide) (by omega) (fun hc47 => ?_) (fun hc47 => by exfalso; omega)
      refine dz_iconst x.1 d_Model_cell_81 ?_
      exact ly_iret x d_Model_cell_82 rfl ⟨((sp_fr.rf (P := fun q => b + 130 ≤ q ∧ q < b + 145)).up (show b + 130 ≤ b + 130 ∧ b + 130 < b + 145 by omega)), MI.thr _, Or.inr ⟨by omega, dz_up_s _ _ _ _, rfl⟩⟩
    · refine dz_iload_n x.1 2 d_Model_cell_13 rfl rfl ?_
      refine dz_aload_n x.1 0 d_Model_cell_14 rfl rfl ?_
      refine dz_getr x.1 (ly_Model b) fl_Model_36 (lr_Model_14 b) d_Model_cell_15 ?_
      refine dz_aload_n x.1 0 d_Model_cell_18 rfl rfl ?_
      refine dz_iload_n x.1 1 d_Model_cell_19 rfl rfl ?_
      refine ly_callV (rest := [.ref (b + 138), .int (dz_i i9), .ref (b + 130)]) x cl_Model_135 (c_Model_noBlock l D Dt b sz I nb BI.1 hnb q hq) (by decide) (ly_Model b) rfl rfl rfl rfl (Nat.le_of_ble_eq_true rfl) d_Model_cell_20 (fun v I' hp20 => ?_)
      obtain ⟨rfl, hp20I⟩ := hp20
      have hp20I := hp20I.symm
      subst hp20I
      show ly_V κ b sz I 23 [(0, .ref (b + 130)), (1, .int (dz_i q)), (2, .int (dz_i i9))] [.int (dz_i (if ¬ (0 ≤ q ∧ q < (nb : Int)) then 1 else 0)), .ref (b + 138), .int (dz_i i9), .ref (b + 130)]
      refine dz_if_eq (tgt := 30) x.1 d_Model_cell_23 (by decide) (dz_br _) (fun hc23 => ?_) (fun hc23 => ?_)
      · have hc23 : ¬ (¬ (0 ≤ q ∧ q < (nb : Int))) := dz_bf hc23
        refine dz_iload_n x.1 1 d_Model_cell_30 rfl rfl ?_
        refine dz_iald (w := ((Bk q.toNat).2.length : Int)) x.1 (ly_MSizes b) (by decide) (by omega) d_Model_cell_31 (by have h9 := (BI.2.2 q.toNat (by omega)).2.1; rw [show ((q.toNat : Nat) : Int) = q by omega] at h9; exact h9) ?_
        refine dz_icmp_lt (tgt := 39) x.1 d_Model_cell_32 (by decide) (by omega) (by omega) (fun hc32 => ?_) (fun hc32 => ?_)
        · refine dz_iconst x.1 d_Model_cell_39 ?_
          refine dz_puti x.1 (ly_Model b) fl_Model_63 fp_Model_0 d_Model_cell_40 ?_
          refine dz_aload_n x.1 0 d_Model_cell_43 rfl rfl ?_
          refine dz_geti (z := 0) x.1 (ly_Model b) fl_Model_63 d_Model_cell_44 (dz_up_s _ _ _ _) ?_
          refine dz_if_ne (tgt := 81) x.1 d_Model_cell_47 (by decide) (by omega) (fun hc47 => by exfalso; omega) (fun hc47 => ?_)
          have hil : i9.toNat < (Bk q.toNat).2.length := by omega
          have hie : (Bk q.toNat).2[i9.toNat]? = some ((Bk q.toNat).2.getD i9.toNat (0, 0)) := by rw [List.getD_eq_getElem?_getD, List.getElem?_eq_getElem hil]; rfl
          refine dz_aload_n x.1 0 d_Model_cell_50 rfl rfl ?_
          refine dz_getr x.1 (ly_Model b) fl_Model_39 (lr_Model_15 b) d_Model_cell_51 ?_
          refine dz_sipush x.1 d_Model_cell_54 (by decide) ?_
          refine dz_iload_n x.1 1 d_Model_cell_57 rfl rfl ?_
          refine dz_imul (z := 240 * q) x.1 d_Model_cell_58 (by omega) ?_
          refine dz_iload_n x.1 2 d_Model_cell_59 rfl rfl ?_
          refine dz_iadd (z := 240 * q + i9) x.1 d_Model_cell_60 (by omega) ?_
          refine dz_iald (w := ((Bk q.toNat).2.getD i9.toNat (0, 0)).1) x.1 (ly_MCells b) (by decide) (by omega) d_Model_cell_61 (by rw [dz_up_n _ _ _ (by omega)]; exact (by have h9 := ((BI.2.2 q.toNat (by omega)).2.2.1 i9.toNat _ hie).1; rw [show ((q.toNat : Nat) : Int) = q by omega, show ((i9.toNat : Nat) : Int) = i9 by omega] at h9; exact h9)) ?_
          refine dz_bipush x.1 d_Model_cell_62 (by decide) ?_
          refine dz_aload_n x.1 0 d_Model_cell_64 rfl rfl ?_
          refine dz_getr x.1 (ly_Model b) fl_Model_42 (lr_Model_16 b) d_Model_cell_65 ?_
          refine dz_sipush x.1 d_Model_cell_68 (by decide) ?_
          refine dz_iload_n x.1 1 d_Model_cell_71 rfl rfl ?_
          refine dz_imul (z := 240 * q) x.1 d_Model_cell_72 (by omega) ?_
          refine dz_iload_n x.1 2 d_Model_cell_73 rfl rfl ?_
          refine dz_iadd (z := 240 * q + i9) x.1 d_Model_cell_74 (by omega) ?_
          refine dz_iald (w := ((Bk q.toNat).2.getD i9.toNat (0, 0)).2) x.1 (ly_MOrigins b) (by decide) (by omega) d_Model_cell_75 (by rw [dz_up_n _ _ _ (by omega)]; exact (by have h9 := ((BI.2.2 q.toNat (by omega)).2.2.1 i9.toNat _ hie).2; rw [show ((q.toNat : Nat) : Int) = q by omega, show ((i9.toNat : Nat) : Int) = i9 by omega] at h9; exact h9)) ?_
          refine dz_imul (z := 64 * ((Bk q.toNat).2.getD i9.toNat (0, 0)).2) x.1 d_Model_cell_76 (by omega) ?_
          refine dz_iadd (z := ((Bk q.toNat).2.getD i9.toNat (0, 0)).1 + 64 * ((Bk q.toNat).2.getD i9.toNat (0, 0)).2) x.1 d_Model_cell_77 (by omega) ?_
          refine dz_goto (tgt := 82) x.1 d_Model_cell_78 (by decide) ?_
          exact ly_iret x d_Model_cell_82 rfl ⟨((sp_fr.rf (P := fun q => b + 130 ≤ q ∧ q < b + 145)).up (show b + 130 ≤ b + 130 ∧ b + 130 < b + 145 by omega)), MI.thr _, Or.inl ⟨by omega, rfl, dz_up_s _ _ _ _⟩⟩
        · refine dz_iconst x.1 d_Model_cell_35 ?_
          refine dz_goto (tgt := 40) x.1 d_Model_cell_36 (by decide) ?_
          refine dz_puti x.1 (ly_Model b) fl_Model_63 fp_Model_0 d_Model_cell_40 ?_
          refine dz_aload_n x.1 0 d_Model_cell_43 rfl rfl ?_
          refine dz_geti (z := 1) x.1 (ly_Model b) fl_Model_63 d_Model_cell_44 (dz_up_s _ _ _ _) ?_
          refine dz_if_ne (tgt := 81) x.1 d_Model_cell_47 (by decide) (by omega) (fun hc47 => ?_) (fun hc47 => by exfalso; omega)
          refine dz_iconst x.1 d_Model_cell_81 ?_
          exact ly_iret x d_Model_cell_82 rfl ⟨((sp_fr.rf (P := fun q => b + 130 ≤ q ∧ q < b + 145)).up (show b + 130 ≤ b + 130 ∧ b + 130 < b + 145 by omega)), MI.thr _, Or.inr ⟨by omega, dz_up_s _ _ _ _, rfl⟩⟩
      · have hc23 : ¬ (0 ≤ q ∧ q < (nb : Int)) := dz_bt hc23
        exact absurd hc23 hc6
