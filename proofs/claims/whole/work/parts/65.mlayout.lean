theorem sp_ctx_none {f : Nat → Option Int} : ∀ (k j : Nat), (∀ i, j ≤ i → i < j + k → f i = none) → sp_ctx f k j = 0 := by
  intro k
  induction k with
  | zero => intro j _; rfl
  | succ k ih => intro j h; simp only [sp_ctx]; rw [h j (by omega) (by omega)]; exact ih (j + 1) (fun i h1 h2 => h i (by omega) (by omega))
theorem sp_ctx_n {f : Nat → Option Int} : ∀ (k j : Nat), f (j + k) = none → sp_ctx f (k + 1) j = sp_ctx f k j := by
  intro k
  induction k with
  | zero => intro j h; simp only [sp_ctx]; rw [show f j = none from h]
  | succ k ih =>
    intro j h
    rw [show sp_ctx f (k + 1 + 1) j = (match f j with | some v => v | none => sp_ctx f (k + 1) (j + 1)) from rfl, show sp_ctx f (k + 1) j = (match f j with | some v => v | none => sp_ctx f k (j + 1)) from rfl]
    rw [ih (j + 1) (by rw [show j + 1 + k = j + (k + 1) by omega]; exact h)]
theorem sp_ctx_s {f : Nat → Option Int} {v : Int} : ∀ (k j : Nat), f (j + k) = some v → (∀ i, j ≤ i → i < j + k → f i = none) → sp_ctx f (k + 1) j = v := by
  intro k
  induction k with
  | zero => intro j h _; simp only [sp_ctx]; rw [show f j = some v from h]
  | succ k ih =>
    intro j h hn
    rw [show sp_ctx f (k + 1 + 1) j = (match f j with | some v => v | none => sp_ctx f (k + 1) (j + 1)) from rfl, hn j (by omega) (by omega)]
    exact ih (j + 1) (by rw [show j + 1 + k = j + (k + 1) by omega]; exact h) (fun i h1 h2 => hn i (by omega) (by omega))
theorem sp_x0_n {T k lc : Int} {v : Int × Int} (h : ¬ k = 3) (h1 : ¬ (k = 1 ∧ 0 < lc)) : sp_x0 T k lc v = v := by
  unfold sp_x0 sp_bh sp_br; rw [if_neg h1]; exact if_neg (fun z => h z.1)
theorem sp_x0_3 {T lc pg us : Int} (h : 0 < us) : sp_x0 T 3 lc (pg, us) = (pg + 1, 0) := by
  unfold sp_x0 sp_bh sp_br; rw [if_neg (by omega), if_pos ⟨rfl, h⟩]
theorem sp_x0_30 {T lc pg us : Int} (h : us ≤ 0) : sp_x0 T 3 lc (pg, us) = (pg, us) := by
  unfold sp_x0 sp_bh sp_br; rw [if_neg (by omega), if_neg (by simp only; omega)]
theorem sp_x0_1a {T lc pg : Int} (h : 0 < lc) : sp_x0 T 1 lc (pg, 0) = (pg, 0) := by
  unfold sp_x0 sp_bh sp_br sp_mw; rw [if_pos ⟨rfl, h⟩, if_neg (c := (1 : Int) = 3 ∧ 0 < (0 : Int)) (by omega), if_pos rfl]
theorem sp_x0_1b {T lc pg us : Int} (h : 0 < lc) (h2 : 0 < us) (h3 : T - us - 1 < lc + 1) : sp_x0 T 1 lc (pg, us) = (pg + 1, 0) := by
  unfold sp_x0 sp_bh sp_br sp_mw; rw [if_pos ⟨rfl, h⟩, if_neg (c := (1 : Int) = 3 ∧ 0 < us) (by omega), if_neg (by simp only; omega), if_pos h3]
theorem sp_x0_1c {T lc pg us : Int} (h : 0 < lc) (h2 : 0 < us) (h3 : ¬ T - us - 1 < lc + 1) : sp_x0 T 1 lc (pg, us) = (pg, us + 1) := by
  unfold sp_x0 sp_bh sp_br sp_mw; rw [if_pos ⟨rfl, h⟩, if_neg (c := (1 : Int) = 3 ∧ 0 < us) (by omega), if_neg (by simp only; omega), if_neg h3]
theorem sp_x0_lin {T k lc pg us : Int} (h : 0 ≤ us ∧ us ≤ T) : sp_lin T (pg, us) ≤ sp_lin T (sp_x0 T k lc (pg, us)) := by
  have e : (pg + 1) * T = pg * T + T := by rw [Int.add_mul]; omega
  by_cases h3 : k = 3
  · subst h3
    by_cases c : 0 < us
    · rw [sp_x0_3 c]; unfold sp_lin; simp only; omega
    · rw [sp_x0_30 (by omega)]; omega
  · by_cases h1 : k = 1 ∧ 0 < lc
    · obtain ⟨h1, h2⟩ := h1
      subst h1
      by_cases c : 0 < us
      · by_cases c2 : T - us - 1 < lc + 1
        · rw [sp_x0_1b h2 c c2]; unfold sp_lin; simp only; omega
        · rw [sp_x0_1c h2 c c2]; unfold sp_lin; simp only; omega
      · rw [show us = 0 by omega, sp_x0_1a h2]; omega
    · rw [sp_x0_n h3 h1]; omega
section sp_lay_rows
variable {W T P L : Int} {Bk : Nat → sp_Bk}
theorem sp_bs_s (W T : Int) (Bk : Nat → sp_Bk) (j : Nat) : sp_bs W T Bk (j + 1) = sp_pu T (sp_bl W (Bk j)).length ((sp_bx W T Bk j).1, (sp_bx W T Bk j).2, (sp_bs W T Bk j).2.2) := rfl
theorem sp_bx_rng (hW : 10 ≤ W ∧ W ≤ 40) (hT : 3 ≤ T) {j : Nat} (h : ∀ i, i < j → sp_bok (Bk i)) : (0 ≤ (sp_bx W T Bk j).2 ∧ (sp_bx W T Bk j).2 ≤ T) ∧ (sp_bs W T Bk j).1 ≤ (sp_bx W T Bk j).1 ∧ (sp_bx W T Bk j).1 ≤ (sp_bs W T Bk j).1 + 1 :=
  sp_x0_rng hT (sp_bs_rng hW hT j h).2.1
theorem sp_lin_bs (hW : 10 ≤ W ∧ W ≤ 40) (hT : 3 ≤ T) : ∀ j : Nat, (∀ i, i < j → sp_bok (Bk i)) → ∀ i, i < j → sp_lin T (sp_bx W T Bk i) + ((sp_bl W (Bk i)).length : Int) ≤ sp_lin T ((sp_bs W T Bk j).1, (sp_bs W T Bk j).2.1) := by
  intro j
  induction j with
  | zero => intro _ i hi; omega
  | succ j ih =>
    intro h i hi
    have hb := sp_bx_rng hW hT (j := j) (fun i hi => h i (by omega))
    have hl := (sp_pu_lin (T := T) (pg := (sp_bx W T Bk j).1) (la := (sp_bs W T Bk j).2.2) (by omega) hb.1 (sp_bl W (Bk j)).length).2
    rw [← sp_bs_s] at hl
    rw [hl]
    by_cases e : i = j
    · subst e; exact Int.le_refl _
    · have h1 := ih (fun i hi => h i (by omega)) i (by omega)
      have h2 : sp_lin T ((sp_bs W T Bk j).1, (sp_bs W T Bk j).2.1) ≤ sp_lin T (sp_bx W T Bk j) := sp_x0_lin (sp_bs_rng hW hT j (fun i hi => h i (by omega))).2.1
      have h3 : sp_lin T (sp_bx W T Bk j) = sp_lin T ((sp_bx W T Bk j).1, (sp_bx W T Bk j).2) := rfl
      omega
def sp_fq (W T P L : Int) (Bk : Nat → sp_Bk) (v : Int) (i : Nat) : Option Int := if 0 ≤ sp_dd T P L (sp_bx W T Bk i) ∧ sp_dd T P L (sp_bx W T Bk i) < ((sp_bl W (Bk i)).length : Int) then some (sp_col W (Bk i).1 (sp_bl W (Bk i)) (sp_dd T P L (sp_bx W T Bk i)).toNat v) else none
def sp_wn (W T P L : Int) (Bk : Nat → sp_Bk) (j : Nat) (v : Int) : Int := sp_ctx (sp_fq W T P L Bk v) j 0
theorem sp_fq_none (hW : 10 ≤ W ∧ W ≤ 40) (hT : 3 ≤ T) {j : Nat} (h : ∀ i, i < j → sp_bok (Bk i)) (hd : 0 ≤ sp_dd T P L (sp_bx W T Bk j)) (v : Int) : ∀ i, i < j → sp_fq W T P L Bk v i = none := by
  intro i hi
  have h1 := sp_lin_bs hW hT j h i hi
  have h2 : sp_lin T ((sp_bs W T Bk j).1, (sp_bs W T Bk j).2.1) ≤ sp_lin T (sp_bx W T Bk j) := sp_x0_lin (sp_bs_rng hW hT j h).2.1
  unfold sp_fq
  apply if_neg
  unfold sp_dd at hd ⊢
  by_cases c : 0 ≤ L ∧ L < T
  · rw [if_pos c] at hd ⊢; omega
  · rw [if_neg c] at hd; omega
theorem sp_wn_0 (hW : 10 ≤ W ∧ W ≤ 40) (hT : 3 ≤ T) {j : Nat} (h : ∀ i, i < j → sp_bok (Bk i)) (hd : 0 ≤ sp_dd T P L (sp_bx W T Bk j)) (v : Int) : sp_wn W T P L Bk j v = 0 := sp_ctx_none j 0 (fun i _ h2 => sp_fq_none hW hT h hd v i (by omega))
theorem sp_wn_s (hW : 10 ≤ W ∧ W ≤ 40) (hT : 3 ≤ T) {j : Nat} (h : ∀ i, i < j → sp_bok (Bk i)) (v : Int) : sp_wn W T P L Bk (j + 1) v = if 0 ≤ sp_dd T P L (sp_bx W T Bk j) ∧ sp_dd T P L (sp_bx W T Bk j) < ((sp_bl W (Bk j)).length : Int) then sp_col W (Bk j).1 (sp_bl W (Bk j)) (sp_dd T P L (sp_bx W T Bk j)).toNat v else sp_wn W T P L Bk j v := by
  by_cases c : 0 ≤ sp_dd T P L (sp_bx W T Bk j) ∧ sp_dd T P L (sp_bx W T Bk j) < ((sp_bl W (Bk j)).length : Int)
  · rw [if_pos c]
    exact sp_ctx_s j 0 (by rw [Nat.zero_add]; exact if_pos c) (fun i _ h2 => sp_fq_none hW hT h c.1 v i (by omega))
  · rw [if_neg c]
    exact sp_ctx_n j 0 (by rw [Nat.zero_add]; exact if_neg c)
/-- what stands at the wanted line, told as the class finds it -/
theorem sp_wn_at (hW : 10 ≤ W ∧ W ≤ 40) (hT : 3 ≤ T) {nb : Nat} (h : ∀ i, i < nb → sp_bok (Bk i)) (hL : 0 ≤ L ∧ L < T) (v : Int) : sp_wn W T P L Bk nb v = sp_atx W T Bk nb P L v := by
  unfold sp_wn sp_atx
  apply sp_ctx_congr
  intro i h1 h2
  have hb := sp_bx_rng hW hT (Bk := Bk) (j := i) (fun q hq => h q (by omega))
  have hl : sp_lin T (sp_pp W T Bk i) = sp_lin T (sp_bx W T Bk i) := sp_lin_tp hb.1.2
  have e : (P - (sp_pp W T Bk i).1) * T + L - (sp_pp W T Bk i).2 = sp_dd T P L (sp_bx W T Bk i) := by
    unfold sp_dd; rw [if_pos hL, ← hl]; unfold sp_lin; simp only; rw [Int.sub_mul]; omega
  unfold sp_fq sp_fnd
  rw [e]
theorem sp_wn_out (hL : ¬ (0 ≤ L ∧ L < T)) (nb : Nat) (v : Int) : sp_wn W T P L Bk nb v = 0 := sp_ctx_none nb 0 (fun i _ _ => by
  unfold sp_fq sp_dd; rw [if_neg hL]; exact if_neg (by omega))
end sp_lay_rows
def sp_pz (W T : Int) (Bk : Nat → sp_Bk) (i : Nat) : Int := if sp_bl W (Bk i) = [] then -1 else 32 * (sp_pp W T Bk i).1 + (sp_pp W T Bk i).2
def sp_fk (b : Nat) (I J : dz_Hp) : Prop := sp_fr I J (fun q => q = b + 130 ∨ q = b + 142 ∨ q = b + 143 ∨ q = b + 144) ∧ ∀ k : Int, k ≠ 19 → (k < 21 ∨ 25 < k) → J (b + 130) k = I (b + 130) k
theorem sp_fk.rf {b : Nat} {I : dz_Hp} : sp_fk b I I := ⟨sp_fr.rf, fun _ _ _ => rfl⟩
theorem sp_fk.fl {b j : Nat} {I J K : dz_Hp} (h1 : sp_fk b I J) (h2 : sp_fl b j J K) : sp_fk b I K := ⟨h1.1.tr h2.1 (fun _ h => h), fun k a1 a2 => (h2.2.1 k a1 (by omega) (by omega) (by omega)).trans (h1.2 k a1 a2)⟩
theorem sp_fk.f {b : Nat} {I J : dz_Hp} (h : sp_fk b I J) (k v : Int) (hk : 21 ≤ k ∧ k ≤ 25) : sp_fk b I (dz_up J (b + 130) k v) := ⟨h.1.up (Or.inl rfl), fun q a1 a2 => by rw [dz_up_k _ _ _ (by omega)]; exact h.2 q a1 a2⟩
theorem sp_fk.w {b : Nat} {I J : dz_Hp} (h : sp_fk b I J) (k v : Int) : sp_fk b I (dz_up J (b + 143) k v) := ⟨h.1.up (Or.inr (Or.inr (Or.inl rfl))), fun q a1 a2 => by rw [dz_up_n _ _ _ (by omega)]; exact h.2 q a1 a2⟩
theorem sp_fk.p {b : Nat} {I J : dz_Hp} (h : sp_fk b I J) (k v : Int) : sp_fk b I (dz_up J (b + 144) k v) := ⟨h.1.up (Or.inr (Or.inr (Or.inr rfl))), fun q a1 a2 => by rw [dz_up_n _ _ _ (by omega)]; exact h.2 q a1 a2⟩
theorem sp_fk.mo {b : Nat} {I J : dz_Hp} (h : sp_fk b I J) {W T n : Int} {g : Int → Int} {c : Nat} {S : Nat → sp_Ru} {w : Int} {nb : Nat} {Bk : Nat → sp_Bk} {H : List Int} (M : sp_MO b I W T n g c S w nb Bk H) : sp_MO b J W T n g c S w nb Bk H :=
  M.scr (fun k hk => h.2 k (by omega) (by omega)) (fun q h1 h2 => h.1 q (fun z => by rcases z with z | z | z | z <;> omega))
theorem sp_fk.fr {b : Nat} {I J : dz_Hp} (h : sp_fk b I J) : sp_fr I J (fun q => b + 130 ≤ q ∧ q < b + 145) := h.1.mono (fun q z => by rcases z with z | z | z | z <;> omega)
set_option maxRecDepth 100000 in
set_option maxHeartbeats 4000000 in
theorem c_Model_layOut (l : Launch) (D : va_G) (Dt : Nat → ClassId) (b sz : Nat) (I : dz_Hp) (W T n : Int) (g : Int → Int) (c : Nat) (S : Nat → sp_Ru) (w : Int) (nb : Nat) (Bk : Nat → sp_Bk) (H : List Int) (MI : sp_MO b I W T n g c S w nb Bk H) (P L : Int) (hPL : (-2147483648 ≤ P ∧ P < 2147483648) ∧ -2147483648 ≤ L ∧ L < 2147483648)  : ly_M l D Dt b sz y_Model_layOut b_Model_layOut 6 none 4 [.ref (b + 130), .int (dz_i P), .int (dz_i L)] I (fun v I' => v = none ∧ sp_fk b I I' ∧ I' (b + 130) 23 = (sp_bs W T Bk nb).2.2 ∧ (∀ q : Nat, q < nb → I' (b + 144) (q : Int) = sp_pz W T Bk q) ∧ ∀ v : Int, 0 ≤ v → v < 40 → I' (b + 143) v = sp_wn W T P L Bk nb v) := by
  refine ly_enter R_Model (by decide) rfl (Nat.le_of_ble_eq_true rfl) (ly_cat _ 0 rfl) (fun κ x => ?_)
  have hN := ly_N x
  obtain ⟨⟨hW, hT⟩, hWT, TI, RI, hw1, BI, HI⟩ := id MI
  have hn9 := TI.2.1.1
  have hc24 := RI.2.1
  have hnb := BI.2.1
  have hHl := HI.2.1
  have hok : ∀ i, i < nb → sp_bok (Bk i) := fun i hi => (BI.2.2 i hi).2.2.2
  have loop : ∀ (k : Nat) (i : Nat) (J : dz_Hp), (i + k = nb) → (sp_fk b I J) → (J (b + 130) 24 = P) → (J (b + 130) 25 = L) → (∀ v : Int, 0 ≤ v → v < 40 → J (b + 143) v = sp_wn W T P L Bk i v) → (J (b + 130) 21 = (sp_bs W T Bk i).1) → (J (b + 130) 22 = (sp_bs W T Bk i).2.1) → (J (b + 130) 23 = (sp_bs W T Bk i).2.2) → (∀ q : Nat, q < i → J (b + 144) (q : Int) = sp_pz W T Bk q) → ly_V κ b sz J 48 [(0, .ref (b + 130)), (1, .int (dz_i P)), (2, .int (dz_i L)), (3, .int (dz_i (i : Int)))] [] := by
    intro k
    induction k with
    | zero =>
      intro i J hi FJ hJ24 hJ25 hJw hJ21 hJ22 hJ23 hJp
      have ei : i = nb := by omega
      have MJ := FJ.mo MI
      refine dz_iload_n x.1 3 d_Model_layOut_48 rfl rfl ?_
      refine dz_aload_n x.1 0 d_Model_layOut_49 rfl rfl ?_
      refine dz_geti (z := (nb : Int)) x.1 (ly_Model b) fl_Model_100 d_Model_layOut_50 MJ.2.2.2.2.2.1.1 ?_
      refine dz_icmp_ge (tgt := 221) x.1 d_Model_layOut_53 (by decide) (by omega) (by omega) (fun hc53 => ?_) (fun hc53 => by exfalso; omega)
      exact ly_vret x d_Model_layOut_221 ⟨rfl, FJ, by rw [ei] at hJ23; exact hJ23, fun q hq => hJp q (by omega), by rw [ei] at hJw; exact hJw⟩
    | succ k ih =>
      intro i J hi FJ hJ24 hJ25 hJw hJ21 hJ22 hJ23 hJp
      by_cases hi9 : i < nb
      · have hbr := sp_bs_rng hW hT.1 i (fun q hq => hok q (by omega))
        have hxr := sp_bx_rng hW hT.1 (Bk := Bk) (j := i) (fun q hq => hok q (by omega))
        have hyk := hok i hi9
        have hyk1 := hyk.1
        have hbl := sp_bl_ok hW (y := Bk i) hyk.2.1
        have k207 : ∀ (n9 : Int) (J2 : dz_Hp), (sp_fk b I J2) → (J2 (b + 130) 24 = P) → (J2 (b + 130) 25 = L) → (∀ v : Int, 0 ≤ v → v < 40 → J2 (b + 143) v = sp_wn W T P L Bk i v) → (J2 (b + 130) 21 = (sp_bx W T Bk i).1) → (J2 (b + 130) 22 = (sp_bx W T Bk i).2) → (J2 (b + 130) 23 = (sp_bs W T Bk i).2.2) → (∀ q : Nat, q < i → J2 (b + 144) (q : Int) = sp_pz W T Bk q) → (J2 (b + 144) (i : Int) = -1) → ly_V κ b sz J2 207 [(0, .ref (b + 130)), (1, .int (dz_i P)), (2, .int (dz_i L)), (3, .int (dz_i (i : Int))), (4, .int (dz_i n9))] [] := by
          intro n9 J2 FJ2 hJ224 hJ225 hJ2w hJ221 hJ222 hJ223 hJ2p hJ2i
          have MJ2 := FJ2.mo MI
          have LC_J2 : sp_LC b J2 W T i (Bk i).1 := ⟨MJ2.2.1, (MJ2.2.2.2.2.2.1.2.2 i hi9).1, hW, hT, hyk.1, by omega⟩
          have MC_J2 : sp_MC b J2 (240 * (i : Int)) ((Bk i).2.length : Int) (sp_oh (Bk i).2) := by
            have h9 := MJ2.2.2.2.2.2.1.mc (q := (i : Int)) (by omega)
            rw [show ((i : Int)).toNat = i by omega] at h9; exact h9
          have SZ_J2 : J2 (b + 138) (i : Int) = ((Bk i).2.length : Int) := (MJ2.2.2.2.2.2.1.2.2 i hi9).2.1
          refine dz_aload_n x.1 0 d_Model_layOut_207 rfl rfl ?_
          refine dz_iload_n x.1 3 d_Model_layOut_208 rfl rfl ?_
          refine dz_iconst x.1 d_Model_layOut_209 ?_
          refine ly_callV (rest := []) x cl_Model_196 (c_Model_lay l D Dt b sz J2 W T P L i (Bk i).1 (LC_J2) hPL ((sp_bx W T Bk i).1, (sp_bx W T Bk i).2, (sp_bs W T Bk i).2.2) (by simp only; omega) (sp_wn W T P L Bk i) (fun hd v => sp_wn_0 hW hT.1 (fun q hq => hok q (by omega)) hd v) true ⟨fun _ => ⟨⟨hJ221, hJ222, hJ223⟩, ⟨hJ224, hJ225⟩, hJ2i, fun v h1 h2 => by rw [if_neg (by simp only [List.length_nil]; omega)]; exact hJ2w v h1 h2⟩, fun e => (by cases e)⟩ (Bk i).2.length (sp_oh (Bk i).2) (MC_J2) (SZ_J2)) (by decide) (ly_Model b) rfl rfl rfl rfl (Nat.le_of_ble_eq_true rfl) d_Model_layOut_210 (fun v J210 hp210 => ?_)
          obtain ⟨rfl, f210, Q210⟩ := hp210
          show ly_V κ b sz J210 213 [(0, .ref (b + 130)), (1, .int (dz_i P)), (2, .int (dz_i L)), (3, .int (dz_i (i : Int))), (4, .int (dz_i n9))] [.int (dz_i ((sp_nl (sp_fd W (Bk i).1 (sp_oh (Bk i).2) (Bk i).2.length)).length : Int))]
          refine dz_istore (ls' := [(0, .ref (b + 130)), (1, .int (dz_i P)), (2, .int (dz_i L)), (3, .int (dz_i (i : Int))), (4, .int (dz_i ((sp_nl (sp_fd W (Bk i).1 (sp_oh (Bk i).2) (Bk i).2.length)).length : Int)))]) x.1 d_Model_layOut_213 hN (by decide) rfl ?_
          refine dz_iinc (z := (i : Int) + 1) (ls' := [(0, .ref (b + 130)), (1, .int (dz_i P)), (2, .int (dz_i L)), (3, .int (dz_i ((i : Int) + 1))), (4, .int (dz_i ((sp_nl (sp_fd W (Bk i).1 (sp_oh (Bk i).2) (Bk i).2.length)).length : Int)))]) x.1 3 d_Model_layOut_215 rfl hN (by decide) (by omega) rfl ?_
          refine dz_goto (tgt := 48) x.1 d_Model_layOut_218 (by decide) ?_
          refine dz_take 4 (ls' := [(0, .ref (b + 130)), (1, .int (dz_i P)), (2, .int (dz_i L)), (3, .int (dz_i ((i : Int) + 1)))]) rfl ?_
          have h9 := Q210.1 rfl
          obtain ⟨⟨p1, p2, p3⟩, ⟨p4, p5⟩, p6, p7⟩ := h9
          have hR := ih (i + 1) J210 (by omega) (FJ2.fl f210) p4 p5 (fun v h1 h2 => by rw [p7 v h1 h2, sp_wn_s hW hT.1 (fun q hq => hok q (by omega))]; rfl) p1 p2 p3 (fun q hq => by
            by_cases e : q = i
            · subst e; rw [p6]; rfl
            · rw [f210.2.2 _ (by omega)]; exact hJ2p q (by omega))
          rw [show ((i + 1 : Nat) : Int) = (i : Int) + 1 by omega] at hR
          exact hR
        have k105 : ∀ (J1 : dz_Hp), (sp_fk b I J1) → (J1 (b + 130) 24 = P) → (J1 (b + 130) 25 = L) → (∀ v : Int, 0 ≤ v → v < 40 → J1 (b + 143) v = sp_wn W T P L Bk i v) → (J1 (b + 130) 21 = (sp_bs W T Bk i).1) → (J1 (b + 130) 22 = (sp_bs W T Bk i).2.1) → (J1 (b + 130) 23 = (sp_bs W T Bk i).2.2) → (∀ q : Nat, q < i → J1 (b + 144) (q : Int) = sp_pz W T Bk q) → (J1 (b + 144) (i : Int) = -1) → (¬ (Bk i).1 = 3) → ly_V κ b sz J1 105 [(0, .ref (b + 130)), (1, .int (dz_i P)), (2, .int (dz_i L)), (3, .int (dz_i (i : Int)))] [] := by
          intro J1 FJ1 hJ124 hJ125 hJ1w hJ121 hJ122 hJ123 hJ1p hJ1i hk3
          have MJ1 := FJ1.mo MI
          have LC_J1 : sp_LC b J1 W T i (Bk i).1 := ⟨MJ1.2.1, (MJ1.2.2.2.2.2.1.2.2 i hi9).1, hW, hT, hyk.1, by omega⟩
          have MC_J1 : sp_MC b J1 (240 * (i : Int)) ((Bk i).2.length : Int) (sp_oh (Bk i).2) := by
            have h9 := MJ1.2.2.2.2.2.1.mc (q := (i : Int)) (by omega)
            rw [show ((i : Int)).toNat = i by omega] at h9; exact h9
          have SZ_J1 : J1 (b + 138) (i : Int) = ((Bk i).2.length : Int) := (MJ1.2.2.2.2.2.1.2.2 i hi9).2.1
          refine dz_aload_n x.1 0 d_Model_layOut_105 rfl rfl ?_
          refine dz_getr x.1 (ly_Model b) fl_Model_33 (lr_Model_13 b) d_Model_layOut_106 ?_
          refine dz_iload_n x.1 3 d_Model_layOut_109 rfl rfl ?_
          refine dz_iald (w := (Bk i).1) x.1 (ly_MBlockKind b) (by decide) (by omega) d_Model_layOut_110 (MJ1.2.2.2.2.2.1.2.2 i hi9).1 ?_
          refine dz_iconst x.1 d_Model_layOut_111 ?_
          refine dz_icmp_ne (tgt := 124) x.1 d_Model_layOut_112 (by decide) (by omega) (by omega) (fun hc112 => ?_) (fun hc112 => ?_)
          · refine dz_iconst x.1 d_Model_layOut_124 ?_
            refine dz_istore (ls' := [(0, .ref (b + 130)), (1, .int (dz_i P)), (2, .int (dz_i L)), (3, .int (dz_i (i : Int))), (4, .int (dz_i 0))]) x.1 d_Model_layOut_125 hN (by decide) rfl ?_
            refine dz_iload x.1 4 d_Model_layOut_127 rfl ?_
            refine dz_if_le (tgt := 207) x.1 d_Model_layOut_129 (by decide) (by omega) (fun hc129 => ?_) (fun hc129 => by exfalso; omega)
            have hX : (sp_bx W T Bk i) = ((sp_bs W T Bk i).1, (sp_bs W T Bk i).2.1) := sp_x0_n hk3 (by omega)
            exact k207 _ J1 FJ1 hJ124 hJ125 hJ1w (by rw [hX]; exact hJ121) (by rw [hX]; exact hJ122) hJ123 hJ1p hJ1i
          · refine dz_aload_n x.1 0 d_Model_layOut_115 rfl rfl ?_
            refine dz_iload_n x.1 3 d_Model_layOut_116 rfl rfl ?_
            refine dz_iconst x.1 d_Model_layOut_117 ?_
            refine ly_callV (rest := []) x cl_Model_196 (c_Model_lay l D Dt b sz J1 W T P L i (Bk i).1 (LC_J1) hPL ((sp_bx W T Bk i).1, (sp_bx W T Bk i).2, (sp_bs W T Bk i).2.2) (by simp only; omega) (sp_wn W T P L Bk i) (fun hd v => sp_wn_0 hW hT.1 (fun q hq => hok q (by omega)) hd v) false ⟨fun e => (by cases e), fun _ => ⟨fun _ _ => rfl, rfl, rfl⟩⟩ (Bk i).2.length (sp_oh (Bk i).2) (MC_J1) (SZ_J1)) (by decide) (ly_Model b) rfl rfl rfl rfl (Nat.le_of_ble_eq_true rfl) d_Model_layOut_118 (fun v J118 hp118 => ?_)
            obtain ⟨rfl, f118, Q118⟩ := hp118
            have h118 := Q118.2 rfl
            have FJ118 := FJ1.fl f118
            have MJ118 := FJ118.mo MI
            have hJ11821 : J118 (b + 130) 21 = (sp_bs W T Bk i).1 := (h118.1 21 (by decide)).trans hJ121
            have hJ11822 : J118 (b + 130) 22 = (sp_bs W T Bk i).2.1 := (h118.1 22 (by decide)).trans hJ122
            have hJ11823 : J118 (b + 130) 23 = (sp_bs W T Bk i).2.2 := (h118.1 23 (by decide)).trans hJ123
            change ly_V κ b sz J118 _ _ [.int (dz_i ((sp_bl W (Bk i)).length : Int))]
            show ly_V κ b sz J118 121 [(0, .ref (b + 130)), (1, .int (dz_i P)), (2, .int (dz_i L)), (3, .int (dz_i (i : Int)))] [.int (dz_i ((sp_bl W (Bk i)).length : Int))]
            refine dz_goto (tgt := 125) x.1 d_Model_layOut_121 (by decide) ?_
            refine dz_istore (ls' := [(0, .ref (b + 130)), (1, .int (dz_i P)), (2, .int (dz_i L)), (3, .int (dz_i (i : Int))), (4, .int (dz_i ((sp_bl W (Bk i)).length : Int)))]) x.1 d_Model_layOut_125 hN (by decide) rfl ?_
            refine dz_iload x.1 4 d_Model_layOut_127 rfl ?_
            refine dz_if_le (tgt := 207) x.1 d_Model_layOut_129 (by decide) (by omega) (fun hc129 => ?_) (fun hc129 => ?_)
            · have hX : (sp_bx W T Bk i) = ((sp_bs W T Bk i).1, (sp_bs W T Bk i).2.1) := by
                unfold sp_bx
                first
                  | exact sp_x0_n hk3 (by omega)
                  | (rw [hc112, show (sp_bs W T Bk i).2.1 = 0 by omega]; exact sp_x0_1a (by omega))
              exact k207 _ J118 FJ118 (by (repeat (first | rw [dz_up_s] | rw [dz_up_k _ _ _ (by omega)] | rw [dz_up_n _ _ _ (by omega)])); rw [h118.1 24 (by decide)]; exact hJ124) (by (repeat (first | rw [dz_up_s] | rw [dz_up_k _ _ _ (by omega)] | rw [dz_up_n _ _ _ (by omega)])); rw [h118.1 25 (by decide)]; exact hJ125) (fun v h1 h2 => by (repeat (first | rw [dz_up_s] | rw [dz_up_k _ _ _ (by omega)] | rw [dz_up_n _ _ _ (by omega)])); rw [h118.2.1]; exact hJ1w v h1 h2) (by rw [hX]; exact hJ11821) (by rw [hX]; exact hJ11822) (by (repeat (first | rw [dz_up_s] | rw [dz_up_k _ _ _ (by omega)] | rw [dz_up_n _ _ _ (by omega)])); exact hJ11823) (fun q hq => by (repeat (first | rw [dz_up_s] | rw [dz_up_k _ _ _ (by omega)] | rw [dz_up_n _ _ _ (by omega)])); rw [h118.2.2]; exact hJ1p q hq) (by (repeat (first | rw [dz_up_s] | rw [dz_up_k _ _ _ (by omega)] | rw [dz_up_n _ _ _ (by omega)])); rw [h118.2.2]; exact hJ1i)
            · refine dz_aload_n x.1 0 d_Model_layOut_132 rfl rfl ?_
              refine dz_geti (z := (sp_bs W T Bk i).2.1) x.1 (ly_Model b) fl_Model_167 d_Model_layOut_133 hJ11822 ?_
              refine dz_if_le (tgt := 207) x.1 d_Model_layOut_136 (by decide) (by omega) (fun hc136 => ?_) (fun hc136 => ?_)
              · have hX : (sp_bx W T Bk i) = ((sp_bs W T Bk i).1, (sp_bs W T Bk i).2.1) := by
                  unfold sp_bx
                  first
                    | exact sp_x0_n hk3 (by omega)
                    | (rw [hc112, show (sp_bs W T Bk i).2.1 = 0 by omega]; exact sp_x0_1a (by omega))
                exact k207 _ J118 FJ118 (by (repeat (first | rw [dz_up_s] | rw [dz_up_k _ _ _ (by omega)] | rw [dz_up_n _ _ _ (by omega)])); rw [h118.1 24 (by decide)]; exact hJ124) (by (repeat (first | rw [dz_up_s] | rw [dz_up_k _ _ _ (by omega)] | rw [dz_up_n _ _ _ (by omega)])); rw [h118.1 25 (by decide)]; exact hJ125) (fun v h1 h2 => by (repeat (first | rw [dz_up_s] | rw [dz_up_k _ _ _ (by omega)] | rw [dz_up_n _ _ _ (by omega)])); rw [h118.2.1]; exact hJ1w v h1 h2) (by rw [hX]; exact hJ11821) (by rw [hX]; exact hJ11822) (by (repeat (first | rw [dz_up_s] | rw [dz_up_k _ _ _ (by omega)] | rw [dz_up_n _ _ _ (by omega)])); exact hJ11823) (fun q hq => by (repeat (first | rw [dz_up_s] | rw [dz_up_k _ _ _ (by omega)] | rw [dz_up_n _ _ _ (by omega)])); rw [h118.2.2]; exact hJ1p q hq) (by (repeat (first | rw [dz_up_s] | rw [dz_up_k _ _ _ (by omega)] | rw [dz_up_n _ _ _ (by omega)])); rw [h118.2.2]; exact hJ1i)
              · refine dz_aload_n x.1 0 d_Model_layOut_139 rfl rfl ?_
                refine dz_geti (z := T + 1) x.1 (ly_Model b) fl_Model_60 d_Model_layOut_140 MJ118.2.1.2 ?_
                refine dz_iconst x.1 d_Model_layOut_143 ?_
                refine dz_isub (z := T) x.1 d_Model_layOut_144 (by omega) ?_
                refine dz_aload_n x.1 0 d_Model_layOut_145 rfl rfl ?_
                refine dz_geti (z := (sp_bs W T Bk i).2.1) x.1 (ly_Model b) fl_Model_167 d_Model_layOut_146 hJ11822 ?_
                refine dz_isub (z := T - (sp_bs W T Bk i).2.1) x.1 d_Model_layOut_149 (by omega) ?_
                refine dz_iconst x.1 d_Model_layOut_150 ?_
                refine dz_isub (z := T - (sp_bs W T Bk i).2.1 - 1) x.1 d_Model_layOut_151 (by omega) ?_
                refine dz_iload x.1 4 d_Model_layOut_152 rfl ?_
                refine dz_iconst x.1 d_Model_layOut_154 ?_
                refine dz_iadd (z := ((sp_bl W (Bk i)).length : Int) + 1) x.1 d_Model_layOut_155 (by omega) ?_
                refine dz_icmp_lt (tgt := 163) x.1 d_Model_layOut_156 (by decide) (by omega) (by omega) (fun hc156 => ?_) (fun hc156 => ?_)
                · refine dz_iconst x.1 d_Model_layOut_163 ?_
                  refine dz_istore (ls' := [(0, .ref (b + 130)), (1, .int (dz_i P)), (2, .int (dz_i L)), (3, .int (dz_i (i : Int))), (4, .int (dz_i ((sp_bl W (Bk i)).length : Int))), (5, .int (dz_i 0))]) x.1 d_Model_layOut_164 hN (by decide) rfl ?_
                  refine dz_aload_n x.1 0 d_Model_layOut_166 rfl rfl ?_
                  refine dz_iload x.1 5 d_Model_layOut_167 rfl ?_
                  refine dz_if_eq (tgt := 179) x.1 d_Model_layOut_169 (by decide) (by omega) (fun hc169 => ?_) (fun hc169 => by exfalso; omega)
                  refine dz_aload_n x.1 0 d_Model_layOut_179 rfl rfl ?_
                  refine dz_geti (z := (sp_bs W T Bk i).1) x.1 (ly_Model b) fl_Model_170 d_Model_layOut_180 hJ11821 ?_
                  refine dz_iconst x.1 d_Model_layOut_183 ?_
                  refine dz_iadd (z := (sp_bs W T Bk i).1 + 1) x.1 d_Model_layOut_184 (by omega) ?_
                  refine dz_puti x.1 (ly_Model b) fl_Model_170 fp_Model_21 d_Model_layOut_185 ?_
                  refine dz_aload_n x.1 0 d_Model_layOut_188 rfl rfl ?_
                  refine dz_iload x.1 5 d_Model_layOut_189 rfl ?_
                  refine dz_if_eq (tgt := 203) x.1 d_Model_layOut_191 (by decide) (by omega) (fun hc191 => ?_) (fun hc191 => by exfalso; omega)
                  refine dz_iconst x.1 d_Model_layOut_203 ?_
                  refine dz_puti x.1 (ly_Model b) fl_Model_167 fp_Model_22 d_Model_layOut_204 ?_
                  refine dz_take 5 (ls' := [(0, .ref (b + 130)), (1, .int (dz_i P)), (2, .int (dz_i L)), (3, .int (dz_i (i : Int))), (4, .int (dz_i ((sp_bl W (Bk i)).length : Int)))]) rfl ?_
                  have hX : (sp_bx W T Bk i) = ((sp_bs W T Bk i).1 + 1, 0) := by unfold sp_bx; rw [hc112]; exact sp_x0_1b (by omega) (by omega) (by omega)
                  exact k207 _ _ ((FJ118.f 21 _ (by omega)).f 22 _ (by omega)) (by (repeat (first | rw [dz_up_s] | rw [dz_up_k _ _ _ (by omega)] | rw [dz_up_n _ _ _ (by omega)])); rw [h118.1 24 (by decide)]; exact hJ124) (by (repeat (first | rw [dz_up_s] | rw [dz_up_k _ _ _ (by omega)] | rw [dz_up_n _ _ _ (by omega)])); rw [h118.1 25 (by decide)]; exact hJ125) (fun v h1 h2 => by (repeat (first | rw [dz_up_s] | rw [dz_up_k _ _ _ (by omega)] | rw [dz_up_n _ _ _ (by omega)])); rw [h118.2.1]; exact hJ1w v h1 h2) (by rw [hX]; (repeat (first | rw [dz_up_s] | rw [dz_up_k _ _ _ (by omega)] | rw [dz_up_n _ _ _ (by omega)]))) (by rw [hX]; (repeat (first | rw [dz_up_s] | rw [dz_up_k _ _ _ (by omega)] | rw [dz_up_n _ _ _ (by omega)]))) (by (repeat (first | rw [dz_up_s] | rw [dz_up_k _ _ _ (by omega)] | rw [dz_up_n _ _ _ (by omega)])); exact hJ11823) (fun q hq => by (repeat (first | rw [dz_up_s] | rw [dz_up_k _ _ _ (by omega)] | rw [dz_up_n _ _ _ (by omega)])); rw [h118.2.2]; exact hJ1p q hq) (by (repeat (first | rw [dz_up_s] | rw [dz_up_k _ _ _ (by omega)] | rw [dz_up_n _ _ _ (by omega)])); rw [h118.2.2]; exact hJ1i)
                · refine dz_iconst x.1 d_Model_layOut_159 ?_
                  refine dz_goto (tgt := 164) x.1 d_Model_layOut_160 (by decide) ?_
                  refine dz_istore (ls' := [(0, .ref (b + 130)), (1, .int (dz_i P)), (2, .int (dz_i L)), (3, .int (dz_i (i : Int))), (4, .int (dz_i ((sp_bl W (Bk i)).length : Int))), (5, .int (dz_i 1))]) x.1 d_Model_layOut_164 hN (by decide) rfl ?_
                  refine dz_aload_n x.1 0 d_Model_layOut_166 rfl rfl ?_
                  refine dz_iload x.1 5 d_Model_layOut_167 rfl ?_
                  refine dz_if_eq (tgt := 179) x.1 d_Model_layOut_169 (by decide) (by omega) (fun hc169 => by exfalso; omega) (fun hc169 => ?_)
                  refine dz_aload_n x.1 0 d_Model_layOut_172 rfl rfl ?_
                  refine dz_geti (z := (sp_bs W T Bk i).1) x.1 (ly_Model b) fl_Model_170 d_Model_layOut_173 hJ11821 ?_
                  refine dz_goto (tgt := 185) x.1 d_Model_layOut_176 (by decide) ?_
                  refine dz_puti x.1 (ly_Model b) fl_Model_170 fp_Model_21 d_Model_layOut_185 ?_
                  refine dz_aload_n x.1 0 d_Model_layOut_188 rfl rfl ?_
                  refine dz_iload x.1 5 d_Model_layOut_189 rfl ?_
                  refine dz_if_eq (tgt := 203) x.1 d_Model_layOut_191 (by decide) (by omega) (fun hc191 => by exfalso; omega) (fun hc191 => ?_)
                  refine dz_aload_n x.1 0 d_Model_layOut_194 rfl rfl ?_
                  refine dz_geti (z := (sp_bs W T Bk i).2.1) x.1 (ly_Model b) fl_Model_167 d_Model_layOut_195 (by rw [dz_up_k _ _ _ (by omega)]; exact hJ11822) ?_
                  refine dz_iconst x.1 d_Model_layOut_198 ?_
                  refine dz_iadd (z := (sp_bs W T Bk i).2.1 + 1) x.1 d_Model_layOut_199 (by omega) ?_
                  refine dz_goto (tgt := 204) x.1 d_Model_layOut_200 (by decide) ?_
                  refine dz_puti x.1 (ly_Model b) fl_Model_167 fp_Model_22 d_Model_layOut_204 ?_
                  refine dz_take 5 (ls' := [(0, .ref (b + 130)), (1, .int (dz_i P)), (2, .int (dz_i L)), (3, .int (dz_i (i : Int))), (4, .int (dz_i ((sp_bl W (Bk i)).length : Int)))]) rfl ?_
                  have hX : (sp_bx W T Bk i) = ((sp_bs W T Bk i).1, (sp_bs W T Bk i).2.1 + 1) := by unfold sp_bx; rw [hc112]; exact sp_x0_1c (by omega) (by omega) (by omega)
                  exact k207 _ _ ((FJ118.f 21 _ (by omega)).f 22 _ (by omega)) (by (repeat (first | rw [dz_up_s] | rw [dz_up_k _ _ _ (by omega)] | rw [dz_up_n _ _ _ (by omega)])); rw [h118.1 24 (by decide)]; exact hJ124) (by (repeat (first | rw [dz_up_s] | rw [dz_up_k _ _ _ (by omega)] | rw [dz_up_n _ _ _ (by omega)])); rw [h118.1 25 (by decide)]; exact hJ125) (fun v h1 h2 => by (repeat (first | rw [dz_up_s] | rw [dz_up_k _ _ _ (by omega)] | rw [dz_up_n _ _ _ (by omega)])); rw [h118.2.1]; exact hJ1w v h1 h2) (by rw [hX]; (repeat (first | rw [dz_up_s] | rw [dz_up_k _ _ _ (by omega)] | rw [dz_up_n _ _ _ (by omega)]))) (by rw [hX]; (repeat (first | rw [dz_up_s] | rw [dz_up_k _ _ _ (by omega)] | rw [dz_up_n _ _ _ (by omega)]))) (by (repeat (first | rw [dz_up_s] | rw [dz_up_k _ _ _ (by omega)] | rw [dz_up_n _ _ _ (by omega)])); exact hJ11823) (fun q hq => by (repeat (first | rw [dz_up_s] | rw [dz_up_k _ _ _ (by omega)] | rw [dz_up_n _ _ _ (by omega)])); rw [h118.2.2]; exact hJ1p q hq) (by (repeat (first | rw [dz_up_s] | rw [dz_up_k _ _ _ (by omega)] | rw [dz_up_n _ _ _ (by omega)])); rw [h118.2.2]; exact hJ1i)
        have MJ := FJ.mo MI
        refine dz_iload_n x.1 3 d_Model_layOut_48 rfl rfl ?_
        refine dz_aload_n x.1 0 d_Model_layOut_49 rfl rfl ?_
        refine dz_geti (z := (nb : Int)) x.1 (ly_Model b) fl_Model_100 d_Model_layOut_50 MJ.2.2.2.2.2.1.1 ?_
        refine dz_icmp_ge (tgt := 221) x.1 d_Model_layOut_53 (by decide) (by omega) (by omega) (fun hc53 => by exfalso; omega) (fun hc53 => ?_)
        refine dz_aload_n x.1 0 d_Model_layOut_56 rfl rfl ?_
        refine dz_getr x.1 (ly_Model b) fl_Model_54 (lr_Model_27 b) d_Model_layOut_57 ?_
        refine dz_iload_n x.1 3 d_Model_layOut_60 rfl rfl ?_
        refine dz_iconst x.1 d_Model_layOut_61 ?_
        refine dz_iast x.1 (ly_MPlaces b) (by decide) (by omega) d_Model_layOut_62 ?_
        refine dz_aload_n x.1 0 d_Model_layOut_63 rfl rfl ?_
        refine dz_getr x.1 (ly_Model b) fl_Model_33 (lr_Model_13 b) d_Model_layOut_64 ?_
        refine dz_iload_n x.1 3 d_Model_layOut_67 rfl rfl ?_
        refine dz_iald (w := (Bk i).1) x.1 (ly_MBlockKind b) (by decide) (by omega) d_Model_layOut_68 (by rw [dz_up_n _ _ _ (by omega)]; exact (MJ.2.2.2.2.2.1.2.2 i hi9).1) ?_
        refine dz_iconst x.1 d_Model_layOut_69 ?_
        refine dz_icmp_ne (tgt := 105) x.1 d_Model_layOut_70 (by decide) (by omega) (by omega) (fun hc70 => ?_) (fun hc70 => ?_)
        · exact k105 _ (FJ.p _ _) (by (repeat (first | rw [dz_up_s] | rw [dz_up_k _ _ _ (by omega)] | rw [dz_up_n _ _ _ (by omega)])); exact hJ24) (by (repeat (first | rw [dz_up_s] | rw [dz_up_k _ _ _ (by omega)] | rw [dz_up_n _ _ _ (by omega)])); exact hJ25) (fun v h1 h2 => by (repeat (first | rw [dz_up_s] | rw [dz_up_k _ _ _ (by omega)] | rw [dz_up_n _ _ _ (by omega)])); exact hJw v h1 h2) (by (repeat (first | rw [dz_up_s] | rw [dz_up_k _ _ _ (by omega)] | rw [dz_up_n _ _ _ (by omega)])); exact hJ21) (by (repeat (first | rw [dz_up_s] | rw [dz_up_k _ _ _ (by omega)] | rw [dz_up_n _ _ _ (by omega)])); exact hJ22) (by (repeat (first | rw [dz_up_s] | rw [dz_up_k _ _ _ (by omega)] | rw [dz_up_n _ _ _ (by omega)])); exact hJ23) (fun q hq => by rw [dz_up_k _ _ _ (by omega)]; exact hJp q hq) (dz_up_s _ _ _ _) hc70
        · refine dz_aload_n x.1 0 d_Model_layOut_73 rfl rfl ?_
          refine dz_aload_n x.1 0 d_Model_layOut_74 rfl rfl ?_
          refine dz_geti (z := (sp_bs W T Bk i).2.1) x.1 (ly_Model b) fl_Model_167 d_Model_layOut_75 (by rw [dz_up_n _ _ _ (by omega)]; exact hJ22) ?_
          refine dz_if_le (tgt := 90) x.1 d_Model_layOut_78 (by decide) (by omega) (fun hc78 => ?_) (fun hc78 => ?_)
          · refine dz_aload_n x.1 0 d_Model_layOut_90 rfl rfl ?_
            refine dz_geti (z := (sp_bs W T Bk i).1) x.1 (ly_Model b) fl_Model_170 d_Model_layOut_91 (by rw [dz_up_n _ _ _ (by omega)]; exact hJ21) ?_
            refine dz_puti x.1 (ly_Model b) fl_Model_170 fp_Model_21 d_Model_layOut_94 ?_
            refine dz_aload_n x.1 0 d_Model_layOut_97 rfl rfl ?_
            refine dz_iconst x.1 d_Model_layOut_98 ?_
            refine dz_puti x.1 (ly_Model b) fl_Model_167 fp_Model_22 d_Model_layOut_99 ?_
            refine dz_goto (tgt := 215) x.1 d_Model_layOut_102 (by decide) ?_
            refine dz_iinc (z := (i : Int) + 1) (ls' := [(0, .ref (b + 130)), (1, .int (dz_i P)), (2, .int (dz_i L)), (3, .int (dz_i ((i : Int) + 1)))]) x.1 3 d_Model_layOut_215 rfl hN (by decide) (by omega) rfl ?_
            refine dz_goto (tgt := 48) x.1 d_Model_layOut_218 (by decide) ?_
            have hO : (Bk i).2 = [] := hyk.2.2.2 hc70
            have hLs : sp_bl W (Bk i) = [] := by unfold sp_bl; rw [hO]; rfl
            have hX : (sp_bx W T Bk i) = ((sp_bs W T Bk i).1, 0) := by unfold sp_bx; rw [hc70]; rw [show (sp_bs W T Bk i).2.1 = 0 by omega]; exact sp_x0_30 (by omega)
            have hB1 : sp_bs W T Bk (i + 1) = ((sp_bs W T Bk i).1, 0, (sp_bs W T Bk i).2.2) := by rw [sp_bs_s, hLs, hX]; rfl
            have hR := ih (i + 1) (dz_up (dz_up (dz_up J (b + 144) (i : Int) (-1)) (b + 130) 21 ((sp_bs W T Bk i).1)) (b + 130) 22 0) (by omega) (((FJ.p _ _).f 21 _ (by omega)).f 22 _ (by omega)) (by (repeat (first | rw [dz_up_s] | rw [dz_up_k _ _ _ (by omega)] | rw [dz_up_n _ _ _ (by omega)])); exact hJ24) (by (repeat (first | rw [dz_up_s] | rw [dz_up_k _ _ _ (by omega)] | rw [dz_up_n _ _ _ (by omega)])); exact hJ25) (fun v h1 h2 => by rw [sp_wn_s hW hT.1 (fun q hq => hok q (by omega)), hLs, if_neg (by simp only [List.length_nil]; omega)]; (repeat (first | rw [dz_up_s] | rw [dz_up_k _ _ _ (by omega)] | rw [dz_up_n _ _ _ (by omega)])); exact hJw v h1 h2) (by rw [hB1]; (repeat (first | rw [dz_up_s] | rw [dz_up_k _ _ _ (by omega)] | rw [dz_up_n _ _ _ (by omega)]))) (by rw [hB1]; (repeat (first | rw [dz_up_s] | rw [dz_up_k _ _ _ (by omega)] | rw [dz_up_n _ _ _ (by omega)]))) (by rw [hB1]; (repeat (first | rw [dz_up_s] | rw [dz_up_k _ _ _ (by omega)] | rw [dz_up_n _ _ _ (by omega)])); exact hJ23) (fun q hq => by
              by_cases e : q = i
              · subst e; unfold sp_pz; rw [if_pos hLs]; (repeat (first | rw [dz_up_s] | rw [dz_up_k _ _ _ (by omega)] | rw [dz_up_n _ _ _ (by omega)]))
              · (repeat (first | rw [dz_up_s] | rw [dz_up_k _ _ _ (by omega)] | rw [dz_up_n _ _ _ (by omega)])); exact hJp q (by omega))
            rw [show ((i + 1 : Nat) : Int) = (i : Int) + 1 by omega] at hR
            exact hR
          · refine dz_aload_n x.1 0 d_Model_layOut_81 rfl rfl ?_
            refine dz_geti (z := (sp_bs W T Bk i).1) x.1 (ly_Model b) fl_Model_170 d_Model_layOut_82 (by rw [dz_up_n _ _ _ (by omega)]; exact hJ21) ?_
            refine dz_iconst x.1 d_Model_layOut_85 ?_
            refine dz_iadd (z := (sp_bs W T Bk i).1 + 1) x.1 d_Model_layOut_86 (by omega) ?_
            refine dz_goto (tgt := 94) x.1 d_Model_layOut_87 (by decide) ?_
            refine dz_puti x.1 (ly_Model b) fl_Model_170 fp_Model_21 d_Model_layOut_94 ?_
            refine dz_aload_n x.1 0 d_Model_layOut_97 rfl rfl ?_
            refine dz_iconst x.1 d_Model_layOut_98 ?_
            refine dz_puti x.1 (ly_Model b) fl_Model_167 fp_Model_22 d_Model_layOut_99 ?_
            refine dz_goto (tgt := 215) x.1 d_Model_layOut_102 (by decide) ?_
            refine dz_iinc (z := (i : Int) + 1) (ls' := [(0, .ref (b + 130)), (1, .int (dz_i P)), (2, .int (dz_i L)), (3, .int (dz_i ((i : Int) + 1)))]) x.1 3 d_Model_layOut_215 rfl hN (by decide) (by omega) rfl ?_
            refine dz_goto (tgt := 48) x.1 d_Model_layOut_218 (by decide) ?_
            have hO : (Bk i).2 = [] := hyk.2.2.2 hc70
            have hLs : sp_bl W (Bk i) = [] := by unfold sp_bl; rw [hO]; rfl
            have hX : (sp_bx W T Bk i) = ((sp_bs W T Bk i).1 + 1, 0) := by unfold sp_bx; rw [hc70]; exact sp_x0_3 (by omega)
            have hB1 : sp_bs W T Bk (i + 1) = ((sp_bs W T Bk i).1 + 1, 0, (sp_bs W T Bk i).2.2) := by rw [sp_bs_s, hLs, hX]; rfl
            have hR := ih (i + 1) (dz_up (dz_up (dz_up J (b + 144) (i : Int) (-1)) (b + 130) 21 ((sp_bs W T Bk i).1 + 1)) (b + 130) 22 0) (by omega) (((FJ.p _ _).f 21 _ (by omega)).f 22 _ (by omega)) (by (repeat (first | rw [dz_up_s] | rw [dz_up_k _ _ _ (by omega)] | rw [dz_up_n _ _ _ (by omega)])); exact hJ24) (by (repeat (first | rw [dz_up_s] | rw [dz_up_k _ _ _ (by omega)] | rw [dz_up_n _ _ _ (by omega)])); exact hJ25) (fun v h1 h2 => by rw [sp_wn_s hW hT.1 (fun q hq => hok q (by omega)), hLs, if_neg (by simp only [List.length_nil]; omega)]; (repeat (first | rw [dz_up_s] | rw [dz_up_k _ _ _ (by omega)] | rw [dz_up_n _ _ _ (by omega)])); exact hJw v h1 h2) (by rw [hB1]; (repeat (first | rw [dz_up_s] | rw [dz_up_k _ _ _ (by omega)] | rw [dz_up_n _ _ _ (by omega)]))) (by rw [hB1]; (repeat (first | rw [dz_up_s] | rw [dz_up_k _ _ _ (by omega)] | rw [dz_up_n _ _ _ (by omega)]))) (by rw [hB1]; (repeat (first | rw [dz_up_s] | rw [dz_up_k _ _ _ (by omega)] | rw [dz_up_n _ _ _ (by omega)])); exact hJ23) (fun q hq => by
              by_cases e : q = i
              · subst e; unfold sp_pz; rw [if_pos hLs]; (repeat (first | rw [dz_up_s] | rw [dz_up_k _ _ _ (by omega)] | rw [dz_up_n _ _ _ (by omega)]))
              · (repeat (first | rw [dz_up_s] | rw [dz_up_k _ _ _ (by omega)] | rw [dz_up_n _ _ _ (by omega)])); exact hJp q (by omega))
            rw [show ((i + 1 : Nat) : Int) = (i : Int) + 1 by omega] at hR
            exact hR
      · have ei : i = nb := by omega
        have MJ := FJ.mo MI
        refine dz_iload_n x.1 3 d_Model_layOut_48 rfl rfl ?_
        refine dz_aload_n x.1 0 d_Model_layOut_49 rfl rfl ?_
        refine dz_geti (z := (nb : Int)) x.1 (ly_Model b) fl_Model_100 d_Model_layOut_50 MJ.2.2.2.2.2.1.1 ?_
        refine dz_icmp_ge (tgt := 221) x.1 d_Model_layOut_53 (by decide) (by omega) (by omega) (fun hc53 => ?_) (fun hc53 => by exfalso; omega)
        exact ly_vret x d_Model_layOut_221 ⟨rfl, FJ, by rw [ei] at hJ23; exact hJ23, fun q hq => hJp q (by omega), by rw [ei] at hJw; exact hJw⟩
  have loop0 : ∀ (k : Nat) (t : Int) (J : dz_Hp), (0 ≤ t ∧ t + (k : Int) = 40) → (sp_fk b I J) → (J (b + 130) 21 = 1) → (J (b + 130) 22 = 0) → (J (b + 130) 23 = 1) → (J (b + 130) 24 = P) → (J (b + 130) 25 = L) → (∀ v : Int, 0 ≤ v → v < t → J (b + 143) v = 0) → ly_V κ b sz J 27 [(0, .ref (b + 130)), (1, .int (dz_i P)), (2, .int (dz_i L)), (3, .int (dz_i t))] [] := by
    intro k
    induction k with
    | zero =>
      intro t J ht FJ hJ21 hJ22 hJ23 hJ24 hJ25 hz
      refine dz_iload_n x.1 3 d_Model_layOut_27 rfl rfl ?_
      refine dz_bipush x.1 d_Model_layOut_28 (by decide) ?_
      refine dz_icmp_ge (tgt := 46) x.1 d_Model_layOut_30 (by decide) (by omega) (by omega) (fun hc30 => ?_) (fun hc30 => by exfalso; omega)
      refine dz_iconst x.1 d_Model_layOut_46 ?_
      refine dz_istore_n (ls' := [(0, .ref (b + 130)), (1, .int (dz_i P)), (2, .int (dz_i L)), (3, .int (dz_i 0))]) x.1 d_Model_layOut_47 rfl hN (by decide) rfl ?_
      have h9 := loop nb 0 J (by omega) FJ hJ24 hJ25 (fun v h1 h2 => hz v h1 (by omega)) hJ21 hJ22 hJ23 (fun q hq => by omega)
      exact h9
    | succ k ih =>
      intro t J ht FJ hJ21 hJ22 hJ23 hJ24 hJ25 hz
      refine dz_iload_n x.1 3 d_Model_layOut_27 rfl rfl ?_
      refine dz_bipush x.1 d_Model_layOut_28 (by decide) ?_
      refine dz_icmp_ge (tgt := 46) x.1 d_Model_layOut_30 (by decide) (by omega) (by omega) (fun hc30 => by exfalso; omega) (fun hc30 => ?_)
      refine dz_aload_n x.1 0 d_Model_layOut_33 rfl rfl ?_
      refine dz_getr x.1 (ly_Model b) fl_Model_51 (lr_Model_26 b) d_Model_layOut_34 ?_
      refine dz_iload_n x.1 3 d_Model_layOut_37 rfl rfl ?_
      refine dz_iconst x.1 d_Model_layOut_38 ?_
      refine dz_iast x.1 (ly_MWanted b) (by decide) (by omega) d_Model_layOut_39 ?_
      refine dz_iinc (z := t + 1) (ls' := [(0, .ref (b + 130)), (1, .int (dz_i P)), (2, .int (dz_i L)), (3, .int (dz_i (t + 1)))]) x.1 3 d_Model_layOut_40 rfl hN (by decide) (by omega) rfl ?_
      refine dz_goto (tgt := 27) x.1 d_Model_layOut_43 (by decide) ?_
      exact ih (t + 1) _ (by omega) (FJ.w _ _) (by (repeat (first | rw [dz_up_s] | rw [dz_up_k _ _ _ (by omega)] | rw [dz_up_n _ _ _ (by omega)])); exact hJ21) (by (repeat (first | rw [dz_up_s] | rw [dz_up_k _ _ _ (by omega)] | rw [dz_up_n _ _ _ (by omega)])); exact hJ22) (by (repeat (first | rw [dz_up_s] | rw [dz_up_k _ _ _ (by omega)] | rw [dz_up_n _ _ _ (by omega)])); exact hJ23) (by (repeat (first | rw [dz_up_s] | rw [dz_up_k _ _ _ (by omega)] | rw [dz_up_n _ _ _ (by omega)])); exact hJ24) (by (repeat (first | rw [dz_up_s] | rw [dz_up_k _ _ _ (by omega)] | rw [dz_up_n _ _ _ (by omega)])); exact hJ25) (fun v h1 h2 => by
        by_cases e : v = t
        · rw [e, dz_up_s]
        · rw [dz_up_k _ _ _ e]; exact hz v h1 (by omega))
  show ly_V κ b sz I 0 [(0, .ref (b + 130)), (1, .int (dz_i P)), (2, .int (dz_i L))] []
  refine dz_aload_n x.1 0 d_Model_layOut_0 rfl rfl ?_
  refine dz_iconst x.1 d_Model_layOut_1 ?_
  refine dz_puti x.1 (ly_Model b) fl_Model_170 fp_Model_21 d_Model_layOut_2 ?_
  refine dz_aload_n x.1 0 d_Model_layOut_5 rfl rfl ?_
  refine dz_iconst x.1 d_Model_layOut_6 ?_
  refine dz_puti x.1 (ly_Model b) fl_Model_167 fp_Model_22 d_Model_layOut_7 ?_
  refine dz_aload_n x.1 0 d_Model_layOut_10 rfl rfl ?_
  refine dz_iconst x.1 d_Model_layOut_11 ?_
  refine dz_puti x.1 (ly_Model b) fl_Model_182 fp_Model_23 d_Model_layOut_12 ?_
  refine dz_aload_n x.1 0 d_Model_layOut_15 rfl rfl ?_
  refine dz_iload_n x.1 1 d_Model_layOut_16 rfl rfl ?_
  refine dz_puti x.1 (ly_Model b) fl_Model_176 fp_Model_24 d_Model_layOut_17 ?_
  refine dz_aload_n x.1 0 d_Model_layOut_20 rfl rfl ?_
  refine dz_iload_n x.1 2 d_Model_layOut_21 rfl rfl ?_
  refine dz_puti x.1 (ly_Model b) fl_Model_179 fp_Model_25 d_Model_layOut_22 ?_
  refine dz_iconst x.1 d_Model_layOut_25 ?_
  refine dz_istore_n (ls' := [(0, .ref (b + 130)), (1, .int (dz_i P)), (2, .int (dz_i L)), (3, .int (dz_i 0))]) x.1 d_Model_layOut_26 rfl hN (by decide) rfl ?_
  exact loop0 40 0 _ (by omega) (((((sp_fk.rf.f 21 _ (by omega)).f 22 _ (by omega)).f 23 _ (by omega)).f 24 _ (by omega)).f 25 _ (by omega)) (by (repeat (first | rw [dz_up_s] | rw [dz_up_k _ _ _ (by omega)] | rw [dz_up_n _ _ _ (by omega)]))) (by (repeat (first | rw [dz_up_s] | rw [dz_up_k _ _ _ (by omega)] | rw [dz_up_n _ _ _ (by omega)]))) (by (repeat (first | rw [dz_up_s] | rw [dz_up_k _ _ _ (by omega)] | rw [dz_up_n _ _ _ (by omega)]))) (by (repeat (first | rw [dz_up_s] | rw [dz_up_k _ _ _ (by omega)] | rw [dz_up_n _ _ _ (by omega)]))) (by (repeat (first | rw [dz_up_s] | rw [dz_up_k _ _ _ (by omega)] | rw [dz_up_n _ _ _ (by omega)]))) (fun v h1 h2 => by omega)
