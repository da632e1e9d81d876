/-- the first blank cell from f on; the first cell from p on that is no capital sign -/
def sp_nb (h : Int → Int) : Int → Bool := fun j => decide (¬ h j = 0)
def sp_is32 (h : Int → Int) : Int → Bool := fun j => decide (h j = 32)
def sp_ep (h : Int → Int) (f : Int) : Int := sp_run (sp_nb h) f 300
def sp_cs (h : Int → Int) (p : Int) : Int := sp_run (sp_is32 h) p 300
/-- what is heard -/
def sp_H (b : Nat) (J : dz_Hp) (H : List Int) : Prop := J (b + 78) 2 = (H.length : Int) ∧ H.length ≤ 1200 ∧ (∀ (j : Nat) (e : Int), H[j]? = some e → J (b + 79) (j : Int) = e) ∧ ∀ e ∈ H, 0 ≤ e ∧ e ≤ 126
theorem sp_H.fr {b : Nat} {I J : dz_Hp} {H : List Int} (h : sp_H b I H) (h1 : J (b + 78) 2 = I (b + 78) 2) (h2 : J (b + 79) = I (b + 79)) : sp_H b J H := by unfold sp_H; rw [h1, h2]; exact h
/-- the reader's marks -/
def sp_FL (b : Nat) (J : dz_Hp) (bg e : Int) (nu nx rs : Bool) : Prop := J (b + 78) 3 = bg ∧ J (b + 78) 4 = e ∧ J (b + 78) 5 = (if nu = true then 1 else 0) ∧ J (b + 78) 6 = (if nx = true then 1 else 0) ∧ J (b + 78) 7 = (if rs = true then 1 else 0)
theorem sp_FL.fr {b : Nat} {I J : dz_Hp} {bg e : Int} {nu nx rs : Bool} (h : sp_FL b I bg e nu nx rs) (hk : ∀ k : Int, k ≠ 2 → J (b + 78) k = I (b + 78) k) : sp_FL b J bg e nu nx rs := by
  unfold sp_FL; rw [hk 3 (by decide), hk 4 (by decide), hk 5 (by decide), hk 6 (by decide), hk 7 (by decide)]; exact h
def sp_pc (nx rs : Bool) (ch : Int) : Int := if nx = true ∨ rs = true then sp_big ch else ch
def sp_nx (nx : Bool) (ch : Int) : Bool := if 97 ≤ ch ∧ ch ≤ 122 then false else nx
theorem sp_pc_rng {nx rs : Bool} {ch : Int} (h : 0 ≤ ch ∧ ch ≤ 126) : 0 ≤ sp_pc nx rs ch ∧ sp_pc nx rs ch ≤ 126 := by unfold sp_pc sp_big; (repeat' split) <;> omega
theorem sp_big_rng {ch : Int} (h : 0 ≤ ch ∧ ch ≤ 126) : 0 ≤ sp_big ch ∧ sp_big ch ≤ 126 := by unfold sp_big; split <;> omega
theorem sp_chr_rng (x : Int) : 0 ≤ sp_chr x ∧ sp_chr x ≤ 126 := by
  unfold sp_chr
  by_cases h : x.toNat < 64
  · have key : ∀ n : Nat, n < 64 → 0 ≤ sp_chr (n : Int) ∧ sp_chr (n : Int) ≤ 126 := by decide +kernel
    have := key x.toNat h
    unfold sp_chr at this
    rw [show ((x.toNat : Nat) : Int).toNat = x.toNat by omega] at this
    exact this
  · rw [List.getD_eq_getElem?_getD, List.getElem?_eq_none (by simp; omega)]
    simp
theorem sp_dig_rng (x : Int) : 35 ≤ sp_dig x ∧ sp_dig x ≤ 57 := by unfold sp_dig; (repeat' split) <;> omega
def sp_mcs (h : Int → Int) (S : Nat → sp_Ru) (bg e p : Int) (r : Nat) : Bool := sp_all (sp_hc h p (S r)) (sp_cn (S r)).toNat && sp_app (sp_k (S r)) (decide (p = bg)) (decide (p + sp_cn (S r) = e))
def sp_btc (S : Nat → sp_Ru) (r s : Nat) : Bool := decide (sp_cn (S s) < sp_cn (S r) ∨ (sp_cn (S r) = sp_cn (S s) ∧ sp_k (S r) < sp_k (S s)))
def sp_ll (u : sp_Ru) (nx rs : Bool) : Nat → List Int × Bool
  | 0 => ([], nx)
  | k + 1 => ((sp_ll u nx rs k).1 ++ [sp_pc (sp_ll u nx rs k).2 rs (sp_lt u k)], sp_nx (sp_ll u nx rs k).2 (sp_lt u k))
theorem sp_ll_len (u : sp_Ru) (nx rs : Bool) (k : Nat) : (sp_ll u nx rs k).1.length = k := by
  induction k with
  | zero => rfl
  | succ k ih => simp [sp_ll, ih]
/-- one step of the reading at p -/
def sp_rd (h : Int → Int) (c : Nat) (S : Nat → sp_Ru) (bg e : Int) (nu nx rs : Bool) (p : Int) : List Int × Int × Bool × Bool × Bool :=
  if nu = true ∧ ¬ sp_dig (h p) = 35 then ([sp_dig (h p)], 1, nu, nx, rs) else
  if h p = 60 then ([], 1, true, nx, rs) else
  if h p = 48 then ([], 1, false, nx, rs) else
  if h p = 32 then (if sp_cs h p - p = 1 then ([], sp_cs h p - p, false, true, rs) else ([], sp_cs h p - p, false, nx, true)) else
  match sp_best (sp_mcs h S bg e p) (sp_btc S) c with
  | none => ([sp_pc nx rs (sp_chr (h p))], 1, false, sp_nx nx (sp_chr (h p)), rs)
  | some r => ((sp_ll (S r) nx rs (sp_ln (S r)).toNat).1, sp_cn (S r), false, (sp_ll (S r) nx rs (sp_ln (S r)).toNat).2, rs)
set_option maxRecDepth 100000 in
set_option maxHeartbeats 4000000 in
theorem c_Block_endOfPiece (l : Launch) (D : va_G) (Dt : Nat → ClassId) (b sz : Nat) (I : dz_Hp) (i : Nat) (hi : i < 12) (m : Int) (h : Int → Int) (BI : sp_B b i I m h) (f : Int) (hf : 0 ≤ f ∧ f ≤ m) : ly_M l D Dt b sz y_Block_endOfPiece b_Block_endOfPiece 4 (some .int) 2 [.ref (b + (82 + 4 * i)), .int (dz_i f)] I (fun v I' => v = some (.int (dz_i (sp_ep h f))) ∧ I' = I) := by
  refine ly_enter R_Block (by decide) rfl (Nat.le_of_ble_eq_true rfl) (ly_cat _ 0 rfl) (fun κ x => ?_)
  have hN := ly_N x
  have hm9 := BI.2.1
  have loop : ∀ (k : Nat) (j : Int), (f ≤ j ∧ j + (k : Int) = m) → (∀ q : Int, f ≤ q → q < j → sp_nb h q = true) → ly_V κ b sz I 4 [(0, .ref (b + (82 + 4 * i))), (1, .int (dz_i f)), (2, .int (dz_i j)), (3, .int (dz_i j))] [] := by
    intro k
    induction k with
    | zero =>
      intro j hj hl
      refine dz_iload_n x.1 3 d_Block_endOfPiece_4 rfl rfl ?_
      refine dz_aload_n x.1 0 d_Block_endOfPiece_5 rfl rfl ?_
      refine dz_geti (z := m) x.1 (ly_Block b hi) fl_Block_25 d_Block_endOfPiece_6 BI.1 ?_
      refine dz_icmp_ge (tgt := 30) x.1 d_Block_endOfPiece_9 (by decide) (by omega) (by omega) (fun hc9 => ?_) (fun hc9 => by exfalso; omega)
      refine dz_iload_n x.1 2 d_Block_endOfPiece_30 rfl rfl ?_
      exact ly_iret x d_Block_endOfPiece_31 rfl ⟨by rw [show sp_ep h f = j from sp_run_eq (by omega) (by omega) hl (Or.inr (decide_eq_false (by have := BI.out (j := j) (by omega); omega)))], rfl⟩
    | succ k ih =>
      intro j hj hl
      refine dz_iload_n x.1 3 d_Block_endOfPiece_4 rfl rfl ?_
      refine dz_aload_n x.1 0 d_Block_endOfPiece_5 rfl rfl ?_
      refine dz_geti (z := m) x.1 (ly_Block b hi) fl_Block_25 d_Block_endOfPiece_6 BI.1 ?_
      refine dz_icmp_ge (tgt := 30) x.1 d_Block_endOfPiece_9 (by decide) (by omega) (by omega) (fun hc9 => by exfalso; omega) (fun hc9 => ?_)
      refine dz_aload_n x.1 0 d_Block_endOfPiece_12 rfl rfl ?_
      refine dz_iload_n x.1 3 d_Block_endOfPiece_13 rfl rfl ?_
      refine ly_callV (rest := []) x cl_Block_28 (c_caAt l D Dt b sz I i hi m h BI j (by omega)) (by decide) (ly_Block b hi) rfl rfl rfl rfl (Nat.le_of_ble_eq_true rfl) d_Block_endOfPiece_14 (fun v I' hp14 => ?_)
      obtain ⟨rfl, hp14I⟩ := hp14
      have hp14I := hp14I.symm
      subst hp14I
      have hhp14 := BI.rng j
      show ly_V κ b sz I 17 [(0, .ref (b + (82 + 4 * i))), (1, .int (dz_i f)), (2, .int (dz_i j)), (3, .int (dz_i j))] [.int (dz_i (h j))]
      refine dz_if_eq (tgt := 30) x.1 d_Block_endOfPiece_17 (by decide) (by omega) (fun hc17 => ?_) (fun hc17 => ?_)
      · refine dz_iload_n x.1 2 d_Block_endOfPiece_30 rfl rfl ?_
        exact ly_iret x d_Block_endOfPiece_31 rfl ⟨by rw [show sp_ep h f = j from sp_run_eq (by omega) (by omega) hl (Or.inr (decide_eq_false (by omega)))], rfl⟩
      · refine dz_iload_n x.1 3 d_Block_endOfPiece_20 rfl rfl ?_
        refine dz_iconst x.1 d_Block_endOfPiece_21 ?_
        refine dz_iadd (z := j + 1) x.1 d_Block_endOfPiece_22 (by omega) ?_
        refine dz_istore_n (ls' := [(0, .ref (b + (82 + 4 * i))), (1, .int (dz_i f)), (2, .int (dz_i (j + 1))), (3, .int (dz_i j))]) x.1 d_Block_endOfPiece_23 rfl hN (by decide) rfl ?_
        refine dz_iinc (z := j + 1) (ls' := [(0, .ref (b + (82 + 4 * i))), (1, .int (dz_i f)), (2, .int (dz_i (j + 1))), (3, .int (dz_i (j + 1)))]) x.1 3 d_Block_endOfPiece_24 rfl hN (by decide) (by omega) rfl ?_
        refine dz_goto (tgt := 4) x.1 d_Block_endOfPiece_27 (by decide) ?_
        exact ih (j + 1) (by omega) (fun q h1 h2 => by
          by_cases e : q = j
          · rw [e]; exact decide_eq_true hc17
          · exact hl q h1 (by omega))
  show ly_V κ b sz I 0 [(0, .ref (b + (82 + 4 * i))), (1, .int (dz_i f))] []
  refine dz_iload_n x.1 1 d_Block_endOfPiece_0 rfl rfl ?_
  refine dz_istore_n (ls' := [(0, .ref (b + (82 + 4 * i))), (1, .int (dz_i f)), (2, .int (dz_i f))]) x.1 d_Block_endOfPiece_1 rfl hN (by decide) rfl ?_
  refine dz_iload_n x.1 1 d_Block_endOfPiece_2 rfl rfl ?_
  refine dz_istore_n (ls' := [(0, .ref (b + (82 + 4 * i))), (1, .int (dz_i f)), (2, .int (dz_i f)), (3, .int (dz_i f))]) x.1 d_Block_endOfPiece_3 rfl hN (by decide) rfl ?_
  exact loop (m - f).toNat f (by omega) (fun q h1 h2 => by omega)
set_option maxRecDepth 100000 in
set_option maxHeartbeats 4000000 in
theorem c_Reader_capitalSignsAt (l : Launch) (D : va_G) (Dt : Nat → ClassId) (b sz : Nat) (I : dz_Hp) (i : Nat) (hi : i < 12) (m : Int) (h : Int → Int) (BI : sp_B b i I m h) (p : Int) (hp : 0 ≤ p ∧ p ≤ m) : ly_M l D Dt b sz y_Reader_capitalSignsAt b_Reader_capitalSignsAt 4 (some .int) 2 [.ref (b + (82 + 4 * i)), .int (dz_i p)] I (fun v I' => v = some (.int (dz_i (sp_cs h p - p))) ∧ I' = I) := by
  refine ly_enter R_Reader (by decide) rfl (Nat.le_of_ble_eq_true rfl) (ly_cat _ 0 rfl) (fun κ x => ?_)
  have hN := ly_N x
  have hm9 := BI.2.1
  have loop : ∀ (k : Nat) (j : Int), (p ≤ j ∧ j + (k : Int) = m) → (∀ q : Int, p ≤ q → q < j → sp_is32 h q = true) → ly_V κ b sz I 4 [(0, .ref (b + (82 + 4 * i))), (1, .int (dz_i p)), (2, .int (dz_i (j - p))), (3, .int (dz_i j))] [] := by
    intro k
    induction k with
    | zero =>
      intro j hj hl
      refine dz_iload_n x.1 3 d_Reader_capitalSignsAt_4 rfl rfl ?_
      refine dz_aload_n x.1 0 d_Reader_capitalSignsAt_5 rfl rfl ?_
      refine dz_geti (z := m) x.1 (ly_Block b hi) fl_Reader_23 d_Reader_capitalSignsAt_6 BI.1 ?_
      refine dz_icmp_ge (tgt := 31) x.1 d_Reader_capitalSignsAt_9 (by decide) (by omega) (by omega) (fun hc9 => ?_) (fun hc9 => by exfalso; omega)
      refine dz_iload_n x.1 2 d_Reader_capitalSignsAt_31 rfl rfl ?_
      exact ly_iret x d_Reader_capitalSignsAt_32 rfl ⟨by rw [show sp_cs h p = j from sp_run_eq (by omega) (by omega) hl (Or.inr (decide_eq_false (by have := BI.out (j := j) (by omega); omega)))], rfl⟩
    | succ k ih =>
      intro j hj hl
      refine dz_iload_n x.1 3 d_Reader_capitalSignsAt_4 rfl rfl ?_
      refine dz_aload_n x.1 0 d_Reader_capitalSignsAt_5 rfl rfl ?_
      refine dz_geti (z := m) x.1 (ly_Block b hi) fl_Reader_23 d_Reader_capitalSignsAt_6 BI.1 ?_
      refine dz_icmp_ge (tgt := 31) x.1 d_Reader_capitalSignsAt_9 (by decide) (by omega) (by omega) (fun hc9 => by exfalso; omega) (fun hc9 => ?_)
      refine dz_aload_n x.1 0 d_Reader_capitalSignsAt_12 rfl rfl ?_
      refine dz_iload_n x.1 3 d_Reader_capitalSignsAt_13 rfl rfl ?_
      refine ly_callV (rest := []) x cl_Reader_26 (c_caAt l D Dt b sz I i hi m h BI j (by omega)) (by decide) (ly_Block b hi) rfl rfl rfl rfl (Nat.le_of_ble_eq_true rfl) d_Reader_capitalSignsAt_14 (fun v I' hp14 => ?_)
      obtain ⟨rfl, hp14I⟩ := hp14
      have hp14I := hp14I.symm
      subst hp14I
      have hhp14 := BI.rng j
      show ly_V κ b sz I 17 [(0, .ref (b + (82 + 4 * i))), (1, .int (dz_i p)), (2, .int (dz_i (j - p))), (3, .int (dz_i j))] [.int (dz_i (h j))]
      refine dz_bipush x.1 d_Reader_capitalSignsAt_17 (by decide) ?_
      refine dz_icmp_ne (tgt := 31) x.1 d_Reader_capitalSignsAt_19 (by decide) (by omega) (by omega) (fun hc19 => ?_) (fun hc19 => ?_)
      · refine dz_iload_n x.1 2 d_Reader_capitalSignsAt_31 rfl rfl ?_
        exact ly_iret x d_Reader_capitalSignsAt_32 rfl ⟨by rw [show sp_cs h p = j from sp_run_eq (by omega) (by omega) hl (Or.inr (decide_eq_false (by omega)))], rfl⟩
      · refine dz_iinc (z := j - p + 1) (ls' := [(0, .ref (b + (82 + 4 * i))), (1, .int (dz_i p)), (2, .int (dz_i (j - p + 1))), (3, .int (dz_i j))]) x.1 2 d_Reader_capitalSignsAt_22 rfl hN (by decide) (by omega) rfl ?_
        refine dz_iinc (z := j + 1) (ls' := [(0, .ref (b + (82 + 4 * i))), (1, .int (dz_i p)), (2, .int (dz_i (j - p + 1))), (3, .int (dz_i (j + 1)))]) x.1 3 d_Reader_capitalSignsAt_25 rfl hN (by decide) (by omega) rfl ?_
        refine dz_goto (tgt := 4) x.1 d_Reader_capitalSignsAt_28 (by decide) ?_
        rw [show j - p + 1 = j + 1 - p by omega]
        exact ih (j + 1) (by omega) (fun q h1 h2 => by
          by_cases e : q = j
          · rw [e]; exact decide_eq_true hc19
          · exact hl q h1 (by omega))
  show ly_V κ b sz I 0 [(0, .ref (b + (82 + 4 * i))), (1, .int (dz_i p))] []
  refine dz_iconst x.1 d_Reader_capitalSignsAt_0 ?_
  refine dz_istore_n (ls' := [(0, .ref (b + (82 + 4 * i))), (1, .int (dz_i p)), (2, .int (dz_i 0))]) x.1 d_Reader_capitalSignsAt_1 rfl hN (by decide) rfl ?_
  refine dz_iload_n x.1 1 d_Reader_capitalSignsAt_2 rfl rfl ?_
  refine dz_istore_n (ls' := [(0, .ref (b + (82 + 4 * i))), (1, .int (dz_i p)), (2, .int (dz_i 0)), (3, .int (dz_i p))]) x.1 d_Reader_capitalSignsAt_3 rfl hN (by decide) rfl ?_
  rw [show (0 : Int) = p - p by omega]
  exact loop (m - p).toNat p (by omega) (fun q h1 h2 => by omega)
theorem sp_Hput {b : Nat} {I : dz_Hp} {H : List Int} {ch : Int} (HI : sp_H b I H) (hl : H.length < 1200) (hc : 0 ≤ ch ∧ ch ≤ 126) : sp_H b (dz_up (dz_up I (b + 79) (H.length : Int) ch) (b + 78) 2 ((H.length : Int) + 1)) (H ++ [ch]) := by
  refine ⟨by rw [dz_up_s]; simp, by simp; omega, fun j e he => ?_, fun e he => ?_⟩
  · rw [dz_up_n _ _ _ (by omega)]
    by_cases c : j < H.length
    · rw [List.getElem?_append_left c] at he
      rw [dz_up_k _ _ _ (by omega)]
      exact HI.2.2.1 j e he
    · rw [List.getElem?_append_right (by omega)] at he
      have hj : j - H.length = 0 := by
        by_cases c2 : j - H.length = 0
        · exact c2
        · rw [List.getElem?_eq_none (by simp; omega)] at he; cases he
      rw [hj] at he
      simp at he
      rw [← he, show (j : Int) = (H.length : Int) by omega, dz_up_s]
  · rcases List.mem_append.mp he with he | he
    · exact HI.2.2.2 e he
    · simp at he; rw [he]; exact hc
set_option maxRecDepth 100000 in
set_option maxHeartbeats 4000000 in
theorem c_Reader_put (l : Launch) (D : va_G) (Dt : Nat → ClassId) (b sz : Nat) (I : dz_Hp) (H : List Int) (HI : sp_H b I H) (hl : H.length < 1200) (ch : Int) (hc : 0 ≤ ch ∧ ch ≤ 126) : ly_M l D Dt b sz y_Reader_put b_Reader_put 2 none 1 [.ref (b + 78), .int (dz_i ch)] I (fun v I' => v = none ∧ sp_fr I I' (fun q => q = b + 78 ∨ q = b + 79) ∧ (∀ k : Int, k ≠ 2 → I' (b + 78) k = I (b + 78) k) ∧ sp_H b I' (H ++ [ch])) := by
  refine ly_enter R_Reader (by decide) rfl (Nat.le_of_ble_eq_true rfl) (ly_cat _ 0 rfl) (fun κ x => ?_)
  have hN := ly_N x
  show ly_V κ b sz I 0 [(0, .ref (b + 78)), (1, .int (dz_i ch))] []
  refine dz_aload_n x.1 0 d_Reader_put_0 rfl rfl ?_
  refine dz_geti (z := (H.length : Int)) x.1 (ly_Reader b) fl_Reader_19 d_Reader_put_1 HI.1 ?_
  refine dz_aload_n x.1 0 d_Reader_put_4 rfl rfl ?_
  refine dz_getr x.1 (ly_Reader b) fl_Reader_9 (lr_Reader_1 b) d_Reader_put_5 ?_
  refine dz_alen x.1 (ly_ReaderRow b) (by decide) d_Reader_put_8 ?_
  show ly_V κ b sz I 9 [(0, .ref (b + 78)), (1, .int (dz_i ch))] [.int (dz_i 1200), .int (dz_i (H.length : Int))]
  refine dz_icmp_ge (tgt := 32) x.1 d_Reader_put_9 (by decide) (by omega) (by omega) (fun hc9 => by exfalso; omega) (fun hc9 => ?_)
  refine dz_aload_n x.1 0 d_Reader_put_12 rfl rfl ?_
  refine dz_getr x.1 (ly_Reader b) fl_Reader_9 (lr_Reader_1 b) d_Reader_put_13 ?_
  refine dz_aload_n x.1 0 d_Reader_put_16 rfl rfl ?_
  refine dz_geti (z := (H.length : Int)) x.1 (ly_Reader b) fl_Reader_19 d_Reader_put_17 HI.1 ?_
  refine dz_iload_n x.1 1 d_Reader_put_20 rfl rfl ?_
  refine dz_cast x.1 (ly_ReaderRow b) (by decide) (by omega) (by omega) d_Reader_put_21 ?_
  refine dz_aload_n x.1 0 d_Reader_put_22 rfl rfl ?_
  refine dz_dup x.1 d_Reader_put_23 rfl ?_
  refine dz_geti (z := (H.length : Int)) x.1 (ly_Reader b) fl_Reader_19 d_Reader_put_24 (by rw [dz_up_n _ _ _ (by omega)]; exact HI.1) ?_
  refine dz_iconst x.1 d_Reader_put_27 ?_
  refine dz_iadd (z := (H.length : Int) + 1) x.1 d_Reader_put_28 (by omega) ?_
  refine dz_puti x.1 (ly_Reader b) fl_Reader_19 fp_Reader_2 d_Reader_put_29 ?_
  exact ly_vret x d_Reader_put_32 ⟨rfl, (sp_fr.rf.up (Or.inr rfl)).up (Or.inl rfl), fun k hk => by rw [dz_up_k _ _ _ hk, dz_up_n _ _ _ (by omega)], sp_Hput HI hl hc⟩
set_option maxRecDepth 100000 in
set_option maxHeartbeats 4000000 in
theorem c_Reader_putInCase (l : Launch) (D : va_G) (Dt : Nat → ClassId) (b sz : Nat) (I : dz_Hp) (H : List Int) (HI : sp_H b I H) (bg e : Int) (nu nx rs : Bool) (LI : sp_FL b I bg e nu nx rs) (hl : H.length < 1200) (ch : Int) (hc : 0 ≤ ch ∧ ch ≤ 126) : ly_M l D Dt b sz y_Reader_putInCase b_Reader_putInCase 2 none 3 [.ref (b + 78), .int (dz_i ch)] I (fun v I' => v = none ∧ sp_fr I I' (fun q => q = b + 78 ∨ q = b + 79) ∧ sp_H b I' (H ++ [sp_pc nx rs ch]) ∧ sp_FL b I' bg e nu (sp_nx nx ch) rs) := by
  refine ly_enter R_Reader (by decide) rfl (Nat.le_of_ble_eq_true rfl) (ly_cat _ 0 rfl) (fun κ x => ?_)
  have hN := ly_N x
  show ly_V κ b sz I 0 [(0, .ref (b + 78)), (1, .int (dz_i ch))] []
  refine dz_aload_n x.1 0 d_Reader_putInCase_0 rfl rfl ?_
  refine dz_aload_n x.1 0 d_Reader_putInCase_1 rfl rfl ?_
  refine dz_geti (z := (if nx = true then 1 else 0)) x.1 (ly_Reader b) fl_Reader_55 d_Reader_putInCase_2 LI.2.2.2.1 ?_
  refine dz_if_ne (tgt := 15) x.1 d_Reader_putInCase_5 (by decide) (dz_br _) (fun hc5 => ?_) (fun hc5 => ?_)
  · have hc5 : nx = true := dz_bt hc5
    refine dz_iload_n x.1 1 d_Reader_putInCase_15 rfl rfl ?_
    refine ly_callS (rest := [.ref (b + 78)]) x cl_Reader_115 (c_Code_toCapital l D Dt b sz I ch (by omega)) (by decide) rfl rfl (Nat.le_of_ble_eq_true rfl) d_Reader_putInCase_16 (fun v I' hp16 => ?_)
    obtain ⟨rfl, hp16I⟩ := hp16
    have hp16I := hp16I.symm
    subst hp16I
    have hbg := sp_big_rng (ch := ch) hc
    show ly_V κ b sz I 19 [(0, .ref (b + 78)), (1, .int (dz_i ch))] [.int (dz_i (sp_big ch)), .ref (b + 78)]
    refine dz_goto (tgt := 23) x.1 d_Reader_putInCase_19 (by decide) ?_
    have epc : sp_pc nx rs ch = (sp_big ch) := by unfold sp_pc; rw [if_pos (by first | exact Or.inl hc5 | exact Or.inr hc12)]
    refine ly_callV (rest := []) x cl_Reader_30 (c_Reader_put l D Dt b sz I H HI hl (sp_big ch) (by omega)) (by decide) (ly_Reader b) rfl rfl rfl rfl (Nat.le_of_ble_eq_true rfl) d_Reader_putInCase_23 (fun v J23 hp23 => ?_)
    obtain ⟨rfl, hFJ23, hAJ23, HJ23⟩ := hp23
    show ly_V κ b sz J23 26 [(0, .ref (b + 78)), (1, .int (dz_i ch))] []
    refine dz_iload_n x.1 1 d_Reader_putInCase_26 rfl rfl ?_
    refine ly_callS (rest := []) x cl_Reader_119 (c_Code_isSmall l D Dt b sz J23 ch (by omega)) (by decide) rfl rfl (Nat.le_of_ble_eq_true rfl) d_Reader_putInCase_27 (fun v I' hp27 => ?_)
    obtain ⟨rfl, hp27I⟩ := hp27
    have hp27I := hp27I.symm
    subst hp27I
    show ly_V κ b sz J23 30 [(0, .ref (b + 78)), (1, .int (dz_i ch))] [.int (dz_i (if 97 ≤ ch ∧ ch ≤ 122 then 1 else 0))]
    refine dz_if_eq (tgt := 38) x.1 d_Reader_putInCase_30 (by decide) (dz_br _) (fun hc30 => ?_) (fun hc30 => ?_)
    · have hc30 : ¬ (97 ≤ ch ∧ ch ≤ 122) := dz_bf hc30
      exact ly_vret x d_Reader_putInCase_38 ⟨rfl, hFJ23, by rw [epc]; exact HJ23, by
        have h9 := LI.fr hAJ23
        have e9 : sp_nx nx ch = nx := if_neg hc30
        rw [e9]; exact h9⟩
    · have hc30 : 97 ≤ ch ∧ ch ≤ 122 := dz_bt hc30
      refine dz_aload_n x.1 0 d_Reader_putInCase_33 rfl rfl ?_
      refine dz_iconst x.1 d_Reader_putInCase_34 ?_
      refine dz_putz x.1 (ly_Reader b) fl_Reader_55 fp_Reader_6 (by omega) d_Reader_putInCase_35 ?_
      exact ly_vret x d_Reader_putInCase_38 ⟨rfl, hFJ23.up (Or.inl rfl), by rw [epc]; exact HJ23.fr (dz_up_k _ _ _ (by decide)) (dz_up_n _ _ _ (by omega)), by
        have h9 := LI.fr hAJ23
        refine ⟨by rw [dz_up_k _ _ _ (by decide)]; exact h9.1, by rw [dz_up_k _ _ _ (by decide)]; exact h9.2.1, by rw [dz_up_k _ _ _ (by decide)]; exact h9.2.2.1, ?_, by rw [dz_up_k _ _ _ (by decide)]; exact h9.2.2.2.2⟩
        rw [dz_up_s]; unfold sp_nx; rw [if_pos hc30]; rfl⟩
  · have hc5 : ¬ (nx = true) := dz_bf hc5
    refine dz_aload_n x.1 0 d_Reader_putInCase_8 rfl rfl ?_
    refine dz_geti (z := (if rs = true then 1 else 0)) x.1 (ly_Reader b) fl_Reader_58 d_Reader_putInCase_9 LI.2.2.2.2 ?_
    refine dz_if_eq (tgt := 22) x.1 d_Reader_putInCase_12 (by decide) (dz_br _) (fun hc12 => ?_) (fun hc12 => ?_)
    · have hc12 : ¬ (rs = true) := dz_bf hc12
      refine dz_iload_n x.1 1 d_Reader_putInCase_22 rfl rfl ?_
      have epc : sp_pc nx rs ch = ch := by unfold sp_pc; rw [if_neg (by intro h; rcases h with h | h; exact hc5 h; exact hc12 h)]
      refine ly_callV (rest := []) x cl_Reader_30 (c_Reader_put l D Dt b sz I H HI hl ch (by omega)) (by decide) (ly_Reader b) rfl rfl rfl rfl (Nat.le_of_ble_eq_true rfl) d_Reader_putInCase_23 (fun v J23 hp23 => ?_)
      obtain ⟨rfl, hFJ23, hAJ23, HJ23⟩ := hp23
      show ly_V κ b sz J23 26 [(0, .ref (b + 78)), (1, .int (dz_i ch))] []
      refine dz_iload_n x.1 1 d_Reader_putInCase_26 rfl rfl ?_
      refine ly_callS (rest := []) x cl_Reader_119 (c_Code_isSmall l D Dt b sz J23 ch (by omega)) (by decide) rfl rfl (Nat.le_of_ble_eq_true rfl) d_Reader_putInCase_27 (fun v I' hp27 => ?_)
      obtain ⟨rfl, hp27I⟩ := hp27
      have hp27I := hp27I.symm
      subst hp27I
      show ly_V κ b sz J23 30 [(0, .ref (b + 78)), (1, .int (dz_i ch))] [.int (dz_i (if 97 ≤ ch ∧ ch ≤ 122 then 1 else 0))]
      refine dz_if_eq (tgt := 38) x.1 d_Reader_putInCase_30 (by decide) (dz_br _) (fun hc30 => ?_) (fun hc30 => ?_)
      · have hc30 : ¬ (97 ≤ ch ∧ ch ≤ 122) := dz_bf hc30
        exact ly_vret x d_Reader_putInCase_38 ⟨rfl, hFJ23, by rw [epc]; exact HJ23, by
          have h9 := LI.fr hAJ23
          have e9 : sp_nx nx ch = nx := if_neg hc30
          rw [e9]; exact h9⟩
      · have hc30 : 97 ≤ ch ∧ ch ≤ 122 := dz_bt hc30
        refine dz_aload_n x.1 0 d_Reader_putInCase_33 rfl rfl ?_
        refine dz_iconst x.1 d_Reader_putInCase_34 ?_
        refine dz_putz x.1 (ly_Reader b) fl_Reader_55 fp_Reader_6 (by omega) d_Reader_putInCase_35 ?_
        exact ly_vret x d_Reader_putInCase_38 ⟨rfl, hFJ23.up (Or.inl rfl), by rw [epc]; exact HJ23.fr (dz_up_k _ _ _ (by decide)) (dz_up_n _ _ _ (by omega)), by
          have h9 := LI.fr hAJ23
          refine ⟨by rw [dz_up_k _ _ _ (by decide)]; exact h9.1, by rw [dz_up_k _ _ _ (by decide)]; exact h9.2.1, by rw [dz_up_k _ _ _ (by decide)]; exact h9.2.2.1, ?_, by rw [dz_up_k _ _ _ (by decide)]; exact h9.2.2.2.2⟩
          rw [dz_up_s]; unfold sp_nx; rw [if_pos hc30]; rfl⟩
    · have hc12 : rs = true := dz_bt hc12
      refine dz_iload_n x.1 1 d_Reader_putInCase_15 rfl rfl ?_
      refine ly_callS (rest := [.ref (b + 78)]) x cl_Reader_115 (c_Code_toCapital l D Dt b sz I ch (by omega)) (by decide) rfl rfl (Nat.le_of_ble_eq_true rfl) d_Reader_putInCase_16 (fun v I' hp16 => ?_)
      obtain ⟨rfl, hp16I⟩ := hp16
      have hp16I := hp16I.symm
      subst hp16I
      have hbg := sp_big_rng (ch := ch) hc
      show ly_V κ b sz I 19 [(0, .ref (b + 78)), (1, .int (dz_i ch))] [.int (dz_i (sp_big ch)), .ref (b + 78)]
      refine dz_goto (tgt := 23) x.1 d_Reader_putInCase_19 (by decide) ?_
      have epc : sp_pc nx rs ch = (sp_big ch) := by unfold sp_pc; rw [if_pos (by first | exact Or.inl hc5 | exact Or.inr hc12)]
      refine ly_callV (rest := []) x cl_Reader_30 (c_Reader_put l D Dt b sz I H HI hl (sp_big ch) (by omega)) (by decide) (ly_Reader b) rfl rfl rfl rfl (Nat.le_of_ble_eq_true rfl) d_Reader_putInCase_23 (fun v J23 hp23 => ?_)
      obtain ⟨rfl, hFJ23, hAJ23, HJ23⟩ := hp23
      show ly_V κ b sz J23 26 [(0, .ref (b + 78)), (1, .int (dz_i ch))] []
      refine dz_iload_n x.1 1 d_Reader_putInCase_26 rfl rfl ?_
      refine ly_callS (rest := []) x cl_Reader_119 (c_Code_isSmall l D Dt b sz J23 ch (by omega)) (by decide) rfl rfl (Nat.le_of_ble_eq_true rfl) d_Reader_putInCase_27 (fun v I' hp27 => ?_)
      obtain ⟨rfl, hp27I⟩ := hp27
      have hp27I := hp27I.symm
      subst hp27I
      show ly_V κ b sz J23 30 [(0, .ref (b + 78)), (1, .int (dz_i ch))] [.int (dz_i (if 97 ≤ ch ∧ ch ≤ 122 then 1 else 0))]
      refine dz_if_eq (tgt := 38) x.1 d_Reader_putInCase_30 (by decide) (dz_br _) (fun hc30 => ?_) (fun hc30 => ?_)
      · have hc30 : ¬ (97 ≤ ch ∧ ch ≤ 122) := dz_bf hc30
        exact ly_vret x d_Reader_putInCase_38 ⟨rfl, hFJ23, by rw [epc]; exact HJ23, by
          have h9 := LI.fr hAJ23
          have e9 : sp_nx nx ch = nx := if_neg hc30
          rw [e9]; exact h9⟩
      · have hc30 : 97 ≤ ch ∧ ch ≤ 122 := dz_bt hc30
        refine dz_aload_n x.1 0 d_Reader_putInCase_33 rfl rfl ?_
        refine dz_iconst x.1 d_Reader_putInCase_34 ?_
        refine dz_putz x.1 (ly_Reader b) fl_Reader_55 fp_Reader_6 (by omega) d_Reader_putInCase_35 ?_
        exact ly_vret x d_Reader_putInCase_38 ⟨rfl, hFJ23.up (Or.inl rfl), by rw [epc]; exact HJ23.fr (dz_up_k _ _ _ (by decide)) (dz_up_n _ _ _ (by omega)), by
          have h9 := LI.fr hAJ23
          refine ⟨by rw [dz_up_k _ _ _ (by decide)]; exact h9.1, by rw [dz_up_k _ _ _ (by decide)]; exact h9.2.1, by rw [dz_up_k _ _ _ (by decide)]; exact h9.2.2.1, ?_, by rw [dz_up_k _ _ _ (by decide)]; exact h9.2.2.2.2⟩
          rw [dz_up_s]; unfold sp_nx; rw [if_pos hc30]; rfl⟩
set_option maxRecDepth 100000 in
set_option maxHeartbeats 4000000 in
theorem c_Reader_isBetter (l : Launch) (D : va_G) (Dt : Nat → ClassId) (b sz : Nat) (I : dz_Hp) (r : Nat) (hr : r < 24) (u : sp_Ru) (hu : sp_rl b r I u) (hw : sp_rwf u) (s : Nat) (hs : s < 24) (w : sp_Ru) (hv : sp_rl b s I w) (hww : sp_rwf w) : ly_M l D Dt b sz y_Reader_isBetter b_Reader_isBetter 2 (some .boolean) 1 [.ref (b + (5 + 3 * r)), .ref (b + (5 + 3 * s))] I (fun v I' => v = some (.int (dz_i (if sp_cn w < sp_cn u ∨ (sp_cn u = sp_cn w ∧ sp_k u < sp_k w) then 1 else 0))) ∧ I' = I) := by
  refine ly_enter R_Reader (by decide) rfl (Nat.le_of_ble_eq_true rfl) (ly_cat _ 0 rfl) (fun κ x => ?_)
  have hN := ly_N x
  have hw0 := hw.1
  have hw1 := hw.2.1
  have hw2 := hw.2.2.1
  have hv0 := hww.1
  have hv1 := hww.2.1
  have hv2 := hww.2.2.1
  show ly_V κ b sz I 0 [(0, .ref (b + (5 + 3 * r))), (1, .ref (b + (5 + 3 * s)))] []
  refine dz_aload_n x.1 0 d_Reader_isBetter_0 rfl rfl ?_
  refine dz_geti (z := (sp_cn u)) x.1 (ly_Rule b hr) fl_Reader_91 d_Reader_isBetter_1 hu.2.2.1 ?_
  refine dz_aload_n x.1 1 d_Reader_isBetter_4 rfl rfl ?_
  refine dz_geti (z := (sp_cn w)) x.1 (ly_Rule b hs) fl_Reader_91 d_Reader_isBetter_5 hv.2.2.1 ?_
  refine dz_icmp_gt (tgt := 33) x.1 d_Reader_isBetter_8 (by decide) (by omega) (by omega) (fun hc8 => ?_) (fun hc8 => ?_)
  · refine dz_iconst x.1 d_Reader_isBetter_33 ?_
    refine dz_goto (tgt := 38) x.1 d_Reader_isBetter_34 (by decide) ?_
    exact ly_iret x d_Reader_isBetter_38 (dz_nbo (by omega)) ⟨by first | (exfalso; omega) | rw [if_pos (by omega)] | rw [if_neg (by omega)], rfl⟩
  · refine dz_aload_n x.1 0 d_Reader_isBetter_11 rfl rfl ?_
    refine dz_geti (z := (sp_cn u)) x.1 (ly_Rule b hr) fl_Reader_91 d_Reader_isBetter_12 hu.2.2.1 ?_
    refine dz_aload_n x.1 1 d_Reader_isBetter_15 rfl rfl ?_
    refine dz_geti (z := (sp_cn w)) x.1 (ly_Rule b hs) fl_Reader_91 d_Reader_isBetter_16 hv.2.2.1 ?_
    refine dz_icmp_ne (tgt := 37) x.1 d_Reader_isBetter_19 (by decide) (by omega) (by omega) (fun hc19 => ?_) (fun hc19 => ?_)
    · refine dz_iconst x.1 d_Reader_isBetter_37 ?_
      exact ly_iret x d_Reader_isBetter_38 (dz_nbo (by omega)) ⟨by first | (exfalso; omega) | rw [if_pos (by omega)] | rw [if_neg (by omega)], rfl⟩
    · refine dz_aload_n x.1 0 d_Reader_isBetter_22 rfl rfl ?_
      refine dz_geti (z := (sp_k u)) x.1 (ly_Rule b hr) fl_Reader_112 d_Reader_isBetter_23 hu.1 ?_
      refine dz_aload_n x.1 1 d_Reader_isBetter_26 rfl rfl ?_
      refine dz_geti (z := (sp_k w)) x.1 (ly_Rule b hs) fl_Reader_112 d_Reader_isBetter_27 hv.1 ?_
      refine dz_icmp_ge (tgt := 37) x.1 d_Reader_isBetter_30 (by decide) (by omega) (by omega) (fun hc30 => ?_) (fun hc30 => ?_)
      · refine dz_iconst x.1 d_Reader_isBetter_37 ?_
        exact ly_iret x d_Reader_isBetter_38 (dz_nbo (by omega)) ⟨by first | (exfalso; omega) | rw [if_pos (by omega)] | rw [if_neg (by omega)], rfl⟩
      · refine dz_iconst x.1 d_Reader_isBetter_33 ?_
        refine dz_goto (tgt := 38) x.1 d_Reader_isBetter_34 (by decide) ?_
        exact ly_iret x d_Reader_isBetter_38 (dz_nbo (by omega)) ⟨by first | (exfalso; omega) | rw [if_pos (by omega)] | rw [if_neg (by omega)], rfl⟩
set_option maxRecDepth 100000 in
set_option maxHeartbeats 4000000 in
theorem c_Reader_ruleAt (l : Launch) (D : va_G) (Dt : Nat → ClassId) (b sz : Nat) (I : dz_Hp) (c : Nat) (S : Nat → sp_Ru) (RI : sp_RC b I c S) (i : Nat) (hi : i < 12) (m : Int) (h : Int → Int) (BI : sp_B b i I m h) (bg e : Int) (nu nx rs : Bool) (LI : sp_FL b I bg e nu nx rs) (p : Int) (hp : 0 ≤ p ∧ p < 300) (he : 0 ≤ bg ∧ bg ≤ 300 ∧ 0 ≤ e ∧ e ≤ 300) : ly_M l D Dt b sz y_Reader_ruleAt b_Reader_ruleAt 6 (some (.object "DotBook$Rule")) 4 [.ref (b + 78), .ref (b + (82 + 4 * i)), .int (dz_i p)] I (fun v I' => ((v = some .null ∧ sp_best (sp_mcs h S bg e p) (sp_btc S) c = none) ∨ (∃ j, j < c ∧ v = some (.ref (b + (5 + 3 * j))) ∧ sp_best (sp_mcs h S bg e p) (sp_btc S) c = some j)) ∧ I' = I) := by
  refine ly_enter R_Reader (by decide) rfl (Nat.le_of_ble_eq_true rfl) (ly_cat _ 0 rfl) (fun κ x => ?_)
  have hN := ly_N x
  have hc24 := RI.2.1
  have loop : ∀ (k : Nat) (j : Nat) (v9 : Value), (j + k = c) → ((v9 = .null ∧ sp_best (sp_mcs h S bg e p) (sp_btc S) j = none) ∨ (∃ q, q < c ∧ v9 = .ref (b + (5 + 3 * q)) ∧ sp_best (sp_mcs h S bg e p) (sp_btc S) j = some q)) → ly_V κ b sz I 5 [(0, .ref (b + 78)), (1, .ref (b + (82 + 4 * i))), (2, .int (dz_i p)), (3, v9), (4, .int (dz_i (j : Int)))] [] := by
    intro k
    induction k with
    | zero =>
      intro j v9 hj hv
      rcases hv with ⟨rfl, hb⟩ | ⟨q, hq, rfl, hb⟩
      · have hj24 : True := trivial
        refine dz_iload x.1 4 d_Reader_ruleAt_5 rfl ?_
        refine dz_aload_n x.1 0 d_Reader_ruleAt_7 rfl rfl ?_
        refine dz_getr x.1 (ly_Reader b) fl_Reader_15 (lr_Reader_0 b) d_Reader_ruleAt_8 ?_
        refine dz_geti (z := (c : Int)) x.1 (ly_RuleList b) fl_Reader_94 d_Reader_ruleAt_11 RI.1 ?_
        refine dz_icmp_ge (tgt := 101) x.1 d_Reader_ruleAt_14 (by decide) (by omega) (by omega) (fun hc14 => ?_) (fun hc14 => by exfalso; omega)
        refine dz_aload_nN x.1 3 d_Reader_ruleAt_101 rfl rfl ?_
        have hbc := hb
        rw [show j = c by omega] at hbc
        exact ly_aret x d_Reader_ruleAt_102 (Or.inl rfl) ⟨Or.inl ⟨rfl, hbc⟩, rfl⟩
      · have hj24 : True := trivial
        refine dz_iload x.1 4 d_Reader_ruleAt_5 rfl ?_
        refine dz_aload_n x.1 0 d_Reader_ruleAt_7 rfl rfl ?_
        refine dz_getr x.1 (ly_Reader b) fl_Reader_15 (lr_Reader_0 b) d_Reader_ruleAt_8 ?_
        refine dz_geti (z := (c : Int)) x.1 (ly_RuleList b) fl_Reader_94 d_Reader_ruleAt_11 RI.1 ?_
        refine dz_icmp_ge (tgt := 101) x.1 d_Reader_ruleAt_14 (by decide) (by omega) (by omega) (fun hc14 => ?_) (fun hc14 => by exfalso; omega)
        refine dz_aload_n x.1 3 d_Reader_ruleAt_101 rfl rfl ?_
        have hbc := hb
        rw [show j = c by omega] at hbc
        exact ly_aret x d_Reader_ruleAt_102 (Or.inr ⟨_, rfl⟩) ⟨Or.inr ⟨q, hq, rfl, hbc⟩, rfl⟩
    | succ k ih =>
      intro j v9 hj hv
      have hj9 : j < 24 := by omega
      have hwr := (RI.2.2 j (by omega)).2.2.2.1
      rcases hv with ⟨rfl, hb⟩ | ⟨q, hq, rfl, hb⟩
      · have hj24 : True := trivial
        refine dz_iload x.1 4 d_Reader_ruleAt_5 rfl ?_
        refine dz_aload_n x.1 0 d_Reader_ruleAt_7 rfl rfl ?_
        refine dz_getr x.1 (ly_Reader b) fl_Reader_15 (lr_Reader_0 b) d_Reader_ruleAt_8 ?_
        refine dz_geti (z := (c : Int)) x.1 (ly_RuleList b) fl_Reader_94 d_Reader_ruleAt_11 RI.1 ?_
        refine dz_icmp_ge (tgt := 101) x.1 d_Reader_ruleAt_14 (by decide) (by omega) (by omega) (fun hc14 => by exfalso; omega) (fun hc14 => ?_)
        refine dz_aload_n x.1 0 d_Reader_ruleAt_17 rfl rfl ?_
        refine dz_getr x.1 (ly_Reader b) fl_Reader_15 (lr_Reader_0 b) d_Reader_ruleAt_18 ?_
        refine dz_getr x.1 (ly_RuleList b) fl_Reader_97 (lr_RuleList_0 b) d_Reader_ruleAt_21 ?_
        refine dz_iload x.1 4 d_Reader_ruleAt_24 rfl ?_
        refine dz_aald3 x.1 (ly_RuleArr b) (by decide) (by omega) (lr_RuleArr b hj9) d_Reader_ruleAt_26 ?_
        refine dz_astore (ls' := [(0, .ref (b + 78)), (1, .ref (b + (82 + 4 * i))), (2, .int (dz_i p)), (3, .null), (4, .int (dz_i (j : Int))), (5, .ref (b + (5 + 3 * j)))]) x.1 d_Reader_ruleAt_27 hN (by decide) rfl ?_
        refine dz_aload x.1 5 d_Reader_ruleAt_29 rfl ?_
        refine dz_aload_n x.1 1 d_Reader_ruleAt_31 rfl rfl ?_
        refine dz_iload_n x.1 2 d_Reader_ruleAt_32 rfl rfl ?_
        refine ly_callV (rest := []) x cl_Reader_100 (c_Rule_hasCellsAt l D Dt b sz I j hj9 (S j) (RI.2.2 j (by omega)).1 (RI.2.2 j (by omega)).2 i hi m h BI p (by omega)) (by decide) (ly_Rule b hj9) rfl rfl rfl rfl (Nat.le_of_ble_eq_true rfl) d_Reader_ruleAt_33 (fun v I' hp33 => ?_)
        obtain ⟨rfl, hp33I⟩ := hp33
        have hp33I := hp33I.symm
        subst hp33I
        show ly_V κ b sz I 36 [(0, .ref (b + 78)), (1, .ref (b + (82 + 4 * i))), (2, .int (dz_i p)), (3, .null), (4, .int (dz_i (j : Int))), (5, .ref (b + (5 + 3 * j)))] [.int (dz_i (if sp_all (sp_hc h p (S j)) (sp_cn (S j)).toNat = true then 1 else 0))]
        refine dz_if_eq (tgt := 95) x.1 d_Reader_ruleAt_36 (by decide) (dz_br _) (fun hc36 => ?_) (fun hc36 => ?_)
        · have hc36 : ¬ (sp_all (sp_hc h p (S j)) (sp_cn (S j)).toNat = true) := dz_bf hc36
          refine dz_iinc (z := (j : Int) + 1) (ls' := [(0, .ref (b + 78)), (1, .ref (b + (82 + 4 * i))), (2, .int (dz_i p)), (3, .null), (4, .int (dz_i ((j : Int) + 1))), (5, .ref (b + (5 + 3 * j)))]) x.1 4 d_Reader_ruleAt_95 rfl hN (by decide) (by omega) rfl ?_
          refine dz_goto (tgt := 5) x.1 d_Reader_ruleAt_98 (by decide) ?_
          refine dz_take 5 (ls' := [(0, .ref (b + 78)), (1, .ref (b + (82 + 4 * i))), (2, .int (dz_i p)), (3, .null), (4, .int (dz_i ((j : Int) + 1)))]) rfl ?_
          have hM : ¬ sp_mcs h S bg e p j = true := by
              intro h
              unfold sp_mcs at h
              first
                | exact hc36 (Bool.and_eq_true_iff.mp h).1
                | (first | rw [decide_eq_true hc46] at h | rw [decide_eq_false hc46] at h) <;> (first | rw [decide_eq_true hc65] at h | rw [decide_eq_false hc65] at h) <;> exact hc76 (Bool.and_eq_true_iff.mp h).2
          exact ih (j + 1) _ (by omega) (Or.inl ⟨rfl, (sp_best_n hM).trans hb⟩)
        · have hc36 : sp_all (sp_hc h p (S j)) (sp_cn (S j)).toNat = true := dz_bt hc36
          refine dz_aload x.1 5 d_Reader_ruleAt_39 rfl ?_
          refine dz_iload_n x.1 2 d_Reader_ruleAt_41 rfl rfl ?_
          refine dz_aload_n x.1 0 d_Reader_ruleAt_42 rfl rfl ?_
          refine dz_geti (z := bg) x.1 (ly_Reader b) fl_Reader_42 d_Reader_ruleAt_43 LI.1 ?_
          refine dz_icmp_ne (tgt := 53) x.1 d_Reader_ruleAt_46 (by decide) (by omega) (by omega) (fun hc46 => ?_) (fun hc46 => ?_)
          · refine dz_iconst x.1 d_Reader_ruleAt_53 ?_
            refine dz_iload_n x.1 2 d_Reader_ruleAt_54 rfl rfl ?_
            refine dz_aload x.1 5 d_Reader_ruleAt_55 rfl ?_
            refine dz_geti (z := (sp_cn (S j))) x.1 (ly_Rule b hj9) fl_Reader_91 d_Reader_ruleAt_57 (RI.2.2 j (by omega)).1.2.2.1 ?_
            refine dz_iadd (z := p + (sp_cn (S j))) x.1 d_Reader_ruleAt_60 (by omega) ?_
            refine dz_aload_n x.1 0 d_Reader_ruleAt_61 rfl rfl ?_
            refine dz_geti (z := e) x.1 (ly_Reader b) fl_Reader_48 d_Reader_ruleAt_62 LI.2.1 ?_
            refine dz_icmp_ne (tgt := 72) x.1 d_Reader_ruleAt_65 (by decide) (by omega) (by omega) (fun hc65 => ?_) (fun hc65 => ?_)
            · refine dz_iconst x.1 d_Reader_ruleAt_72 ?_
              refine ly_callV (rest := []) x cl_Reader_104 (c_Rule_applies l D Dt b sz I j hj9 (S j) (RI.2.2 j (by omega)).1 (RI.2.2 j (by omega)).2 false false) (by decide) (ly_Rule b hj9) rfl rfl rfl rfl (Nat.le_of_ble_eq_true rfl) d_Reader_ruleAt_73 (fun v I' hp73 => ?_)
              obtain ⟨rfl, hp73I⟩ := hp73
              have hp73I := hp73I.symm
              subst hp73I
              show ly_V κ b sz I 76 [(0, .ref (b + 78)), (1, .ref (b + (82 + 4 * i))), (2, .int (dz_i p)), (3, .null), (4, .int (dz_i (j : Int))), (5, .ref (b + (5 + 3 * j)))] [.int (dz_i (if sp_app (sp_k (S j)) false false = true then 1 else 0))]
              refine dz_if_eq (tgt := 95) x.1 d_Reader_ruleAt_76 (by decide) (dz_br _) (fun hc76 => ?_) (fun hc76 => ?_)
              · have hc76 : ¬ (sp_app (sp_k (S j)) false false = true) := dz_bf hc76
                refine dz_iinc (z := (j : Int) + 1) (ls' := [(0, .ref (b + 78)), (1, .ref (b + (82 + 4 * i))), (2, .int (dz_i p)), (3, .null), (4, .int (dz_i ((j : Int) + 1))), (5, .ref (b + (5 + 3 * j)))]) x.1 4 d_Reader_ruleAt_95 rfl hN (by decide) (by omega) rfl ?_
                refine dz_goto (tgt := 5) x.1 d_Reader_ruleAt_98 (by decide) ?_
                refine dz_take 5 (ls' := [(0, .ref (b + 78)), (1, .ref (b + (82 + 4 * i))), (2, .int (dz_i p)), (3, .null), (4, .int (dz_i ((j : Int) + 1)))]) rfl ?_
                have hM : ¬ sp_mcs h S bg e p j = true := by
                    intro h
                    unfold sp_mcs at h
                    first
                      | exact hc36 (Bool.and_eq_true_iff.mp h).1
                      | (first | rw [decide_eq_true hc46] at h | rw [decide_eq_false hc46] at h) <;> (first | rw [decide_eq_true hc65] at h | rw [decide_eq_false hc65] at h) <;> exact hc76 (Bool.and_eq_true_iff.mp h).2
                exact ih (j + 1) _ (by omega) (Or.inl ⟨rfl, (sp_best_n hM).trans hb⟩)
              · have hc76 : sp_app (sp_k (S j)) false false = true := dz_bt hc76
                have hM : sp_mcs h S bg e p j = true := by
                  unfold sp_mcs
                  rw [hc36]
                  first | rw [decide_eq_true hc46] | rw [decide_eq_false hc46]
                  first | rw [decide_eq_true hc65] | rw [decide_eq_false hc65]
                  rw [hc76]; rfl
                refine dz_aload_nN x.1 3 d_Reader_ruleAt_79 rfl rfl ?_
                refine dz_ifnullN (tgt := 92) x.1 d_Reader_ruleAt_80 (by decide) ?_
                refine dz_aload x.1 5 d_Reader_ruleAt_92 rfl ?_
                refine dz_astore_n (ls' := [(0, .ref (b + 78)), (1, .ref (b + (82 + 4 * i))), (2, .int (dz_i p)), (3, .ref (b + (5 + 3 * j))), (4, .int (dz_i (j : Int))), (5, .ref (b + (5 + 3 * j)))]) x.1 d_Reader_ruleAt_94 rfl hN (by decide) rfl ?_
                refine dz_iinc (z := (j : Int) + 1) (ls' := [(0, .ref (b + 78)), (1, .ref (b + (82 + 4 * i))), (2, .int (dz_i p)), (3, .ref (b + (5 + 3 * j))), (4, .int (dz_i ((j : Int) + 1))), (5, .ref (b + (5 + 3 * j)))]) x.1 4 d_Reader_ruleAt_95 rfl hN (by decide) (by omega) rfl ?_
                refine dz_goto (tgt := 5) x.1 d_Reader_ruleAt_98 (by decide) ?_
                refine dz_take 5 (ls' := [(0, .ref (b + 78)), (1, .ref (b + (82 + 4 * i))), (2, .int (dz_i p)), (3, .ref (b + (5 + 3 * j))), (4, .int (dz_i ((j : Int) + 1)))]) rfl ?_
                exact ih (j + 1) _ (by omega) (Or.inr ⟨j, by omega, rfl, sp_best_0 hb hM⟩)
            · refine dz_iconst x.1 d_Reader_ruleAt_68 ?_
              refine dz_goto (tgt := 73) x.1 d_Reader_ruleAt_69 (by decide) ?_
              refine ly_callV (rest := []) x cl_Reader_104 (c_Rule_applies l D Dt b sz I j hj9 (S j) (RI.2.2 j (by omega)).1 (RI.2.2 j (by omega)).2 false true) (by decide) (ly_Rule b hj9) rfl rfl rfl rfl (Nat.le_of_ble_eq_true rfl) d_Reader_ruleAt_73 (fun v I' hp73 => ?_)
              obtain ⟨rfl, hp73I⟩ := hp73
              have hp73I := hp73I.symm
              subst hp73I
              show ly_V κ b sz I 76 [(0, .ref (b + 78)), (1, .ref (b + (82 + 4 * i))), (2, .int (dz_i p)), (3, .null), (4, .int (dz_i (j : Int))), (5, .ref (b + (5 + 3 * j)))] [.int (dz_i (if sp_app (sp_k (S j)) false true = true then 1 else 0))]
              refine dz_if_eq (tgt := 95) x.1 d_Reader_ruleAt_76 (by decide) (dz_br _) (fun hc76 => ?_) (fun hc76 => ?_)
              · have hc76 : ¬ (sp_app (sp_k (S j)) false true = true) := dz_bf hc76
                refine dz_iinc (z := (j : Int) + 1) (ls' := [(0, .ref (b + 78)), (1, .ref (b + (82 + 4 * i))), (2, .int (dz_i p)), (3, .null), (4, .int (dz_i ((j : Int) + 1))), (5, .ref (b + (5 + 3 * j)))]) x.1 4 d_Reader_ruleAt_95 rfl hN (by decide) (by omega) rfl ?_
                refine dz_goto (tgt := 5) x.1 d_Reader_ruleAt_98 (by decide) ?_
                refine dz_take 5 (ls' := [(0, .ref (b + 78)), (1, .ref (b + (82 + 4 * i))), (2, .int (dz_i p)), (3, .null), (4, .int (dz_i ((j : Int) + 1)))]) rfl ?_
                have hM : ¬ sp_mcs h S bg e p j = true := by
                    intro h
                    unfold sp_mcs at h
                    first
                      | exact hc36 (Bool.and_eq_true_iff.mp h).1
                      | (first | rw [decide_eq_true hc46] at h | rw [decide_eq_false hc46] at h) <;> (first | rw [decide_eq_true hc65] at h | rw [decide_eq_false hc65] at h) <;> exact hc76 (Bool.and_eq_true_iff.mp h).2
                exact ih (j + 1) _ (by omega) (Or.inl ⟨rfl, (sp_best_n hM).trans hb⟩)
              · have hc76 : sp_app (sp_k (S j)) false true = true := dz_bt hc76
                have hM : sp_mcs h S bg e p j = true := by
                  unfold sp_mcs
                  rw [hc36]
                  first | rw [decide_eq_true hc46] | rw [decide_eq_false hc46]
                  first | rw [decide_eq_true hc65] | rw [decide_eq_false hc65]
                  rw [hc76]; rfl
                refine dz_aload_nN x.1 3 d_Reader_ruleAt_79 rfl rfl ?_
                refine dz_ifnullN (tgt := 92) x.1 d_Reader_ruleAt_80 (by decide) ?_
                refine dz_aload x.1 5 d_Reader_ruleAt_92 rfl ?_
                refine dz_astore_n (ls' := [(0, .ref (b + 78)), (1, .ref (b + (82 + 4 * i))), (2, .int (dz_i p)), (3, .ref (b + (5 + 3 * j))), (4, .int (dz_i (j : Int))), (5, .ref (b + (5 + 3 * j)))]) x.1 d_Reader_ruleAt_94 rfl hN (by decide) rfl ?_
                refine dz_iinc (z := (j : Int) + 1) (ls' := [(0, .ref (b + 78)), (1, .ref (b + (82 + 4 * i))), (2, .int (dz_i p)), (3, .ref (b + (5 + 3 * j))), (4, .int (dz_i ((j : Int) + 1))), (5, .ref (b + (5 + 3 * j)))]) x.1 4 d_Reader_ruleAt_95 rfl hN (by decide) (by omega) rfl ?_
                refine dz_goto (tgt := 5) x.1 d_Reader_ruleAt_98 (by decide) ?_
                refine dz_take 5 (ls' := [(0, .ref (b + 78)), (1, .ref (b + (82 + 4 * i))), (2, .int (dz_i p)), (3, .ref (b + (5 + 3 * j))), (4, .int (dz_i ((j : Int) + 1)))]) rfl ?_
                exact ih (j + 1) _ (by omega) (Or.inr ⟨j, by omega, rfl, sp_best_0 hb hM⟩)
          · refine dz_iconst x.1 d_Reader_ruleAt_49 ?_
            refine dz_goto (tgt := 54) x.1 d_Reader_ruleAt_50 (by decide) ?_
            refine dz_iload_n x.1 2 d_Reader_ruleAt_54 rfl rfl ?_
            refine dz_aload x.1 5 d_Reader_ruleAt_55 rfl ?_
            refine dz_geti (z := (sp_cn (S j))) x.1 (ly_Rule b hj9) fl_Reader_91 d_Reader_ruleAt_57 (RI.2.2 j (by omega)).1.2.2.1 ?_
            refine dz_iadd (z := p + (sp_cn (S j))) x.1 d_Reader_ruleAt_60 (by omega) ?_
            refine dz_aload_n x.1 0 d_Reader_ruleAt_61 rfl rfl ?_
            refine dz_geti (z := e) x.1 (ly_Reader b) fl_Reader_48 d_Reader_ruleAt_62 LI.2.1 ?_
            refine dz_icmp_ne (tgt := 72) x.1 d_Reader_ruleAt_65 (by decide) (by omega) (by omega) (fun hc65 => ?_) (fun hc65 => ?_)
            · refine dz_iconst x.1 d_Reader_ruleAt_72 ?_
              refine ly_callV (rest := []) x cl_Reader_104 (c_Rule_applies l D Dt b sz I j hj9 (S j) (RI.2.2 j (by omega)).1 (RI.2.2 j (by omega)).2 true false) (by decide) (ly_Rule b hj9) rfl rfl rfl rfl (Nat.le_of_ble_eq_true rfl) d_Reader_ruleAt_73 (fun v I' hp73 => ?_)
              obtain ⟨rfl, hp73I⟩ := hp73
              have hp73I := hp73I.symm
              subst hp73I
              show ly_V κ b sz I 76 [(0, .ref (b + 78)), (1, .ref (b + (82 + 4 * i))), (2, .int (dz_i p)), (3, .null), (4, .int (dz_i (j : Int))), (5, .ref (b + (5 + 3 * j)))] [.int (dz_i (if sp_app (sp_k (S j)) true false = true then 1 else 0))]
              refine dz_if_eq (tgt := 95) x.1 d_Reader_ruleAt_76 (by decide) (dz_br _) (fun hc76 => ?_) (fun hc76 => ?_)
              · have hc76 : ¬ (sp_app (sp_k (S j)) true false = true) := dz_bf hc76
                refine dz_iinc (z := (j : Int) + 1) (ls' := [(0, .ref (b + 78)), (1, .ref (b + (82 + 4 * i))), (2, .int (dz_i p)), (3, .null), (4, .int (dz_i ((j : Int) + 1))), (5, .ref (b + (5 + 3 * j)))]) x.1 4 d_Reader_ruleAt_95 rfl hN (by decide) (by omega) rfl ?_
                refine dz_goto (tgt := 5) x.1 d_Reader_ruleAt_98 (by decide) ?_
                refine dz_take 5 (ls' := [(0, .ref (b + 78)), (1, .ref (b + (82 + 4 * i))), (2, .int (dz_i p)), (3, .null), (4, .int (dz_i ((j : Int) + 1)))]) rfl ?_
                have hM : ¬ sp_mcs h S bg e p j = true := by
                    intro h
                    unfold sp_mcs at h
                    first
                      | exact hc36 (Bool.and_eq_true_iff.mp h).1
                      | (first | rw [decide_eq_true hc46] at h | rw [decide_eq_false hc46] at h) <;> (first | rw [decide_eq_true hc65] at h | rw [decide_eq_false hc65] at h) <;> exact hc76 (Bool.and_eq_true_iff.mp h).2
                exact ih (j + 1) _ (by omega) (Or.inl ⟨rfl, (sp_best_n hM).trans hb⟩)
              · have hc76 : sp_app (sp_k (S j)) true false = true := dz_bt hc76
                have hM : sp_mcs h S bg e p j = true := by
                  unfold sp_mcs
                  rw [hc36]
                  first | rw [decide_eq_true hc46] | rw [decide_eq_false hc46]
                  first | rw [decide_eq_true hc65] | rw [decide_eq_false hc65]
                  rw [hc76]; rfl
                refine dz_aload_nN x.1 3 d_Reader_ruleAt_79 rfl rfl ?_
                refine dz_ifnullN (tgt := 92) x.1 d_Reader_ruleAt_80 (by decide) ?_
                refine dz_aload x.1 5 d_Reader_ruleAt_92 rfl ?_
                refine dz_astore_n (ls' := [(0, .ref (b + 78)), (1, .ref (b + (82 + 4 * i))), (2, .int (dz_i p)), (3, .ref (b + (5 + 3 * j))), (4, .int (dz_i (j : Int))), (5, .ref (b + (5 + 3 * j)))]) x.1 d_Reader_ruleAt_94 rfl hN (by decide) rfl ?_
                refine dz_iinc (z := (j : Int) + 1) (ls' := [(0, .ref (b + 78)), (1, .ref (b + (82 + 4 * i))), (2, .int (dz_i p)), (3, .ref (b + (5 + 3 * j))), (4, .int (dz_i ((j : Int) + 1))), (5, .ref (b + (5 + 3 * j)))]) x.1 4 d_Reader_ruleAt_95 rfl hN (by decide) (by omega) rfl ?_
                refine dz_goto (tgt := 5) x.1 d_Reader_ruleAt_98 (by decide) ?_
                refine dz_take 5 (ls' := [(0, .ref (b + 78)), (1, .ref (b + (82 + 4 * i))), (2, .int (dz_i p)), (3, .ref (b + (5 + 3 * j))), (4, .int (dz_i ((j : Int) + 1)))]) rfl ?_
                exact ih (j + 1) _ (by omega) (Or.inr ⟨j, by omega, rfl, sp_best_0 hb hM⟩)
            · refine dz_iconst x.1 d_Reader_ruleAt_68 ?_
              refine dz_goto (tgt := 73) x.1 d_Reader_ruleAt_69 (by decide) ?_
              refine ly_callV (rest := []) x cl_Reader_104 (c_Rule_applies l D Dt b sz I j hj9 (S j) (RI.2.2 j (by omega)).1 (RI.2.2 j (by omega)).2 true true) (by decide) (ly_Rule b hj9) rfl rfl rfl rfl (Nat.le_of_ble_eq_true rfl) d_Reader_ruleAt_73 (fun v I' hp73 => ?_)
              obtain ⟨rfl, hp73I⟩ := hp73
              have hp73I := hp73I.symm
              subst hp73I
              show ly_V κ b sz I 76 [(0, .ref (b + 78)), (1, .ref (b + (82 + 4 * i))), (2, .int (dz_i p)), (3, .null), (4, .int (dz_i (j : Int))), (5, .ref (b + (5 + 3 * j)))] [.int (dz_i (if sp_app (sp_k (S j)) true true = true then 1 else 0))]
              refine dz_if_eq (tgt := 95) x.1 d_Reader_ruleAt_76 (by decide) (dz_br _) (fun hc76 => ?_) (fun hc76 => ?_)
              · have hc76 : ¬ (sp_app (sp_k (S j)) true true = true) := dz_bf hc76
                refine dz_iinc (z := (j : Int) + 1) (ls' := [(0, .ref (b + 78)), (1, .ref (b + (82 + 4 * i))), (2, .int (dz_i p)), (3, .null), (4, .int (dz_i ((j : Int) + 1))), (5, .ref (b + (5 + 3 * j)))]) x.1 4 d_Reader_ruleAt_95 rfl hN (by decide) (by omega) rfl ?_
                refine dz_goto (tgt := 5) x.1 d_Reader_ruleAt_98 (by decide) ?_
                refine dz_take 5 (ls' := [(0, .ref (b + 78)), (1, .ref (b + (82 + 4 * i))), (2, .int (dz_i p)), (3, .null), (4, .int (dz_i ((j : Int) + 1)))]) rfl ?_
                have hM : ¬ sp_mcs h S bg e p j = true := by
                    intro h
                    unfold sp_mcs at h
                    first
                      | exact hc36 (Bool.and_eq_true_iff.mp h).1
                      | (first | rw [decide_eq_true hc46] at h | rw [decide_eq_false hc46] at h) <;> (first | rw [decide_eq_true hc65] at h | rw [decide_eq_false hc65] at h) <;> exact hc76 (Bool.and_eq_true_iff.mp h).2
                exact ih (j + 1) _ (by omega) (Or.inl ⟨rfl, (sp_best_n hM).trans hb⟩)
              · have hc76 : sp_app (sp_k (S j)) true true = true := dz_bt hc76
                have hM : sp_mcs h S bg e p j = true := by
                  unfold sp_mcs
                  rw [hc36]
                  first | rw [decide_eq_true hc46] | rw [decide_eq_false hc46]
                  first | rw [decide_eq_true hc65] | rw [decide_eq_false hc65]
                  rw [hc76]; rfl
                refine dz_aload_nN x.1 3 d_Reader_ruleAt_79 rfl rfl ?_
                refine dz_ifnullN (tgt := 92) x.1 d_Reader_ruleAt_80 (by decide) ?_
                refine dz_aload x.1 5 d_Reader_ruleAt_92 rfl ?_
                refine dz_astore_n (ls' := [(0, .ref (b + 78)), (1, .ref (b + (82 + 4 * i))), (2, .int (dz_i p)), (3, .ref (b + (5 + 3 * j))), (4, .int (dz_i (j : Int))), (5, .ref (b + (5 + 3 * j)))]) x.1 d_Reader_ruleAt_94 rfl hN (by decide) rfl ?_
                refine dz_iinc (z := (j : Int) + 1) (ls' := [(0, .ref (b + 78)), (1, .ref (b + (82 + 4 * i))), (2, .int (dz_i p)), (3, .ref (b + (5 + 3 * j))), (4, .int (dz_i ((j : Int) + 1))), (5, .ref (b + (5 + 3 * j)))]) x.1 4 d_Reader_ruleAt_95 rfl hN (by decide) (by omega) rfl ?_
                refine dz_goto (tgt := 5) x.1 d_Reader_ruleAt_98 (by decide) ?_
                refine dz_take 5 (ls' := [(0, .ref (b + 78)), (1, .ref (b + (82 + 4 * i))), (2, .int (dz_i p)), (3, .ref (b + (5 + 3 * j))), (4, .int (dz_i ((j : Int) + 1)))]) rfl ?_
                exact ih (j + 1) _ (by omega) (Or.inr ⟨j, by omega, rfl, sp_best_0 hb hM⟩)
      · have hj24 : True := trivial
        refine dz_iload x.1 4 d_Reader_ruleAt_5 rfl ?_
        refine dz_aload_n x.1 0 d_Reader_ruleAt_7 rfl rfl ?_
        refine dz_getr x.1 (ly_Reader b) fl_Reader_15 (lr_Reader_0 b) d_Reader_ruleAt_8 ?_
        refine dz_geti (z := (c : Int)) x.1 (ly_RuleList b) fl_Reader_94 d_Reader_ruleAt_11 RI.1 ?_
        refine dz_icmp_ge (tgt := 101) x.1 d_Reader_ruleAt_14 (by decide) (by omega) (by omega) (fun hc14 => by exfalso; omega) (fun hc14 => ?_)
        refine dz_aload_n x.1 0 d_Reader_ruleAt_17 rfl rfl ?_
        refine dz_getr x.1 (ly_Reader b) fl_Reader_15 (lr_Reader_0 b) d_Reader_ruleAt_18 ?_
        refine dz_getr x.1 (ly_RuleList b) fl_Reader_97 (lr_RuleList_0 b) d_Reader_ruleAt_21 ?_
        refine dz_iload x.1 4 d_Reader_ruleAt_24 rfl ?_
        refine dz_aald3 x.1 (ly_RuleArr b) (by decide) (by omega) (lr_RuleArr b hj9) d_Reader_ruleAt_26 ?_
        refine dz_astore (ls' := [(0, .ref (b + 78)), (1, .ref (b + (82 + 4 * i))), (2, .int (dz_i p)), (3, .ref (b + (5 + 3 * q))), (4, .int (dz_i (j : Int))), (5, .ref (b + (5 + 3 * j)))]) x.1 d_Reader_ruleAt_27 hN (by decide) rfl ?_
        refine dz_aload x.1 5 d_Reader_ruleAt_29 rfl ?_
        refine dz_aload_n x.1 1 d_Reader_ruleAt_31 rfl rfl ?_
        refine dz_iload_n x.1 2 d_Reader_ruleAt_32 rfl rfl ?_
        refine ly_callV (rest := []) x cl_Reader_100 (c_Rule_hasCellsAt l D Dt b sz I j hj9 (S j) (RI.2.2 j (by omega)).1 (RI.2.2 j (by omega)).2 i hi m h BI p (by omega)) (by decide) (ly_Rule b hj9) rfl rfl rfl rfl (Nat.le_of_ble_eq_true rfl) d_Reader_ruleAt_33 (fun v I' hp33 => ?_)
        obtain ⟨rfl, hp33I⟩ := hp33
        have hp33I := hp33I.symm
        subst hp33I
        show ly_V κ b sz I 36 [(0, .ref (b + 78)), (1, .ref (b + (82 + 4 * i))), (2, .int (dz_i p)), (3, .ref (b + (5 + 3 * q))), (4, .int (dz_i (j : Int))), (5, .ref (b + (5 + 3 * j)))] [.int (dz_i (if sp_all (sp_hc h p (S j)) (sp_cn (S j)).toNat = true then 1 else 0))]
        refine dz_if_eq (tgt := 95) x.1 d_Reader_ruleAt_36 (by decide) (dz_br _) (fun hc36 => ?_) (fun hc36 => ?_)
        · have hc36 : ¬ (sp_all (sp_hc h p (S j)) (sp_cn (S j)).toNat = true) := dz_bf hc36
          refine dz_iinc (z := (j : Int) + 1) (ls' := [(0, .ref (b + 78)), (1, .ref (b + (82 + 4 * i))), (2, .int (dz_i p)), (3, .ref (b + (5 + 3 * q))), (4, .int (dz_i ((j : Int) + 1))), (5, .ref (b + (5 + 3 * j)))]) x.1 4 d_Reader_ruleAt_95 rfl hN (by decide) (by omega) rfl ?_
          refine dz_goto (tgt := 5) x.1 d_Reader_ruleAt_98 (by decide) ?_
          refine dz_take 5 (ls' := [(0, .ref (b + 78)), (1, .ref (b + (82 + 4 * i))), (2, .int (dz_i p)), (3, .ref (b + (5 + 3 * q))), (4, .int (dz_i ((j : Int) + 1)))]) rfl ?_
          first
            | exact ih (j + 1) _ (by omega) (Or.inr ⟨q, hq, rfl, sp_best_f hb (fun z => hc89 (of_decide_eq_true z))⟩)
            | exact ih (j + 1) _ (by omega) (Or.inr ⟨q, hq, rfl, (sp_best_n (by
                intro h
                unfold sp_mcs at h
                first
                  | exact hc36 (Bool.and_eq_true_iff.mp h).1
                  | (first | rw [decide_eq_true hc46] at h | rw [decide_eq_false hc46] at h) <;> (first | rw [decide_eq_true hc65] at h | rw [decide_eq_false hc65] at h) <;> exact hc76 (Bool.and_eq_true_iff.mp h).2)).trans hb⟩)
        · have hc36 : sp_all (sp_hc h p (S j)) (sp_cn (S j)).toNat = true := dz_bt hc36
          refine dz_aload x.1 5 d_Reader_ruleAt_39 rfl ?_
          refine dz_iload_n x.1 2 d_Reader_ruleAt_41 rfl rfl ?_
          refine dz_aload_n x.1 0 d_Reader_ruleAt_42 rfl rfl ?_
          refine dz_geti (z := bg) x.1 (ly_Reader b) fl_Reader_42 d_Reader_ruleAt_43 LI.1 ?_
          refine dz_icmp_ne (tgt := 53) x.1 d_Reader_ruleAt_46 (by decide) (by omega) (by omega) (fun hc46 => ?_) (fun hc46 => ?_)
          · refine dz_iconst x.1 d_Reader_ruleAt_53 ?_
            refine dz_iload_n x.1 2 d_Reader_ruleAt_54 rfl rfl ?_
            refine dz_aload x.1 5 d_Reader_ruleAt_55 rfl ?_
            refine dz_geti (z := (sp_cn (S j))) x.1 (ly_Rule b hj9) fl_Reader_91 d_Reader_ruleAt_57 (RI.2.2 j (by omega)).1.2.2.1 ?_
            refine dz_iadd (z := p + (sp_cn (S j))) x.1 d_Reader_ruleAt_60 (by omega) ?_
            refine dz_aload_n x.1 0 d_Reader_ruleAt_61 rfl rfl ?_
            refine dz_geti (z := e) x.1 (ly_Reader b) fl_Reader_48 d_Reader_ruleAt_62 LI.2.1 ?_
            refine dz_icmp_ne (tgt := 72) x.1 d_Reader_ruleAt_65 (by decide) (by omega) (by omega) (fun hc65 => ?_) (fun hc65 => ?_)
            · refine dz_iconst x.1 d_Reader_ruleAt_72 ?_
              refine ly_callV (rest := []) x cl_Reader_104 (c_Rule_applies l D Dt b sz I j hj9 (S j) (RI.2.2 j (by omega)).1 (RI.2.2 j (by omega)).2 false false) (by decide) (ly_Rule b hj9) rfl rfl rfl rfl (Nat.le_of_ble_eq_true rfl) d_Reader_ruleAt_73 (fun v I' hp73 => ?_)
              obtain ⟨rfl, hp73I⟩ := hp73
              have hp73I := hp73I.symm
              subst hp73I
              show ly_V κ b sz I 76 [(0, .ref (b + 78)), (1, .ref (b + (82 + 4 * i))), (2, .int (dz_i p)), (3, .ref (b + (5 + 3 * q))), (4, .int (dz_i (j : Int))), (5, .ref (b + (5 + 3 * j)))] [.int (dz_i (if sp_app (sp_k (S j)) false false = true then 1 else 0))]
              refine dz_if_eq (tgt := 95) x.1 d_Reader_ruleAt_76 (by decide) (dz_br _) (fun hc76 => ?_) (fun hc76 => ?_)
              · have hc76 : ¬ (sp_app (sp_k (S j)) false false = true) := dz_bf hc76
                refine dz_iinc (z := (j : Int) + 1) (ls' := [(0, .ref (b + 78)), (1, .ref (b + (82 + 4 * i))), (2, .int (dz_i p)), (3, .ref (b + (5 + 3 * q))), (4, .int (dz_i ((j : Int) + 1))), (5, .ref (b + (5 + 3 * j)))]) x.1 4 d_Reader_ruleAt_95 rfl hN (by decide) (by omega) rfl ?_
                refine dz_goto (tgt := 5) x.1 d_Reader_ruleAt_98 (by decide) ?_
                refine dz_take 5 (ls' := [(0, .ref (b + 78)), (1, .ref (b + (82 + 4 * i))), (2, .int (dz_i p)), (3, .ref (b + (5 + 3 * q))), (4, .int (dz_i ((j : Int) + 1)))]) rfl ?_
                first
                  | exact ih (j + 1) _ (by omega) (Or.inr ⟨q, hq, rfl, sp_best_f hb (fun z => hc89 (of_decide_eq_true z))⟩)
                  | exact ih (j + 1) _ (by omega) (Or.inr ⟨q, hq, rfl, (sp_best_n (by
                      intro h
                      unfold sp_mcs at h
                      first
                        | exact hc36 (Bool.and_eq_true_iff.mp h).1
                        | (first | rw [decide_eq_true hc46] at h | rw [decide_eq_false hc46] at h) <;> (first | rw [decide_eq_true hc65] at h | rw [decide_eq_false hc65] at h) <;> exact hc76 (Bool.and_eq_true_iff.mp h).2)).trans hb⟩)
              · have hc76 : sp_app (sp_k (S j)) false false = true := dz_bt hc76
                have hM : sp_mcs h S bg e p j = true := by
                  unfold sp_mcs
                  rw [hc36]
                  first | rw [decide_eq_true hc46] | rw [decide_eq_false hc46]
                  first | rw [decide_eq_true hc65] | rw [decide_eq_false hc65]
                  rw [hc76]; rfl
                refine dz_aload_n x.1 3 d_Reader_ruleAt_79 rfl rfl ?_
                refine dz_ifnull x.1 d_Reader_ruleAt_80 ?_
                refine dz_aload x.1 5 d_Reader_ruleAt_83 rfl ?_
                refine dz_aload_n x.1 3 d_Reader_ruleAt_85 rfl rfl ?_
                refine ly_callS (rest := []) x cl_Reader_108 (c_Reader_isBetter l D Dt b sz I j hj9 (S j) (RI.2.2 j (by omega)).1 (RI.2.2 j (by omega)).2 q (by omega) (S q) (RI.2.2 q (by omega)).1 (RI.2.2 q (by omega)).2) (by decide) rfl rfl (Nat.le_of_ble_eq_true rfl) d_Reader_ruleAt_86 (fun v I' hp86 => ?_)
                obtain ⟨rfl, hp86I⟩ := hp86
                have hp86I := hp86I.symm
                subst hp86I
                show ly_V κ b sz I 89 [(0, .ref (b + 78)), (1, .ref (b + (82 + 4 * i))), (2, .int (dz_i p)), (3, .ref (b + (5 + 3 * q))), (4, .int (dz_i (j : Int))), (5, .ref (b + (5 + 3 * j)))] [.int (dz_i (if sp_cn (S q) < sp_cn (S j) ∨ (sp_cn (S j) = sp_cn (S q) ∧ sp_k (S j) < sp_k (S q)) then 1 else 0))]
                refine dz_if_eq (tgt := 95) x.1 d_Reader_ruleAt_89 (by decide) (dz_br _) (fun hc89 => ?_) (fun hc89 => ?_)
                · have hc89 : ¬ (sp_cn (S q) < sp_cn (S j) ∨ (sp_cn (S j) = sp_cn (S q) ∧ sp_k (S j) < sp_k (S q))) := dz_bf hc89
                  refine dz_iinc (z := (j : Int) + 1) (ls' := [(0, .ref (b + 78)), (1, .ref (b + (82 + 4 * i))), (2, .int (dz_i p)), (3, .ref (b + (5 + 3 * q))), (4, .int (dz_i ((j : Int) + 1))), (5, .ref (b + (5 + 3 * j)))]) x.1 4 d_Reader_ruleAt_95 rfl hN (by decide) (by omega) rfl ?_
                  refine dz_goto (tgt := 5) x.1 d_Reader_ruleAt_98 (by decide) ?_
                  refine dz_take 5 (ls' := [(0, .ref (b + 78)), (1, .ref (b + (82 + 4 * i))), (2, .int (dz_i p)), (3, .ref (b + (5 + 3 * q))), (4, .int (dz_i ((j : Int) + 1)))]) rfl ?_
                  first
                    | exact ih (j + 1) _ (by omega) (Or.inr ⟨q, hq, rfl, sp_best_f hb (fun z => hc89 (of_decide_eq_true z))⟩)
                    | exact ih (j + 1) _ (by omega) (Or.inr ⟨q, hq, rfl, (sp_best_n (by
                        intro h
                        unfold sp_mcs at h
                        first
                          | exact hc36 (Bool.and_eq_true_iff.mp h).1
                          | (first | rw [decide_eq_true hc46] at h | rw [decide_eq_false hc46] at h) <;> (first | rw [decide_eq_true hc65] at h | rw [decide_eq_false hc65] at h) <;> exact hc76 (Bool.and_eq_true_iff.mp h).2)).trans hb⟩)
                · have hc89 : sp_cn (S q) < sp_cn (S j) ∨ (sp_cn (S j) = sp_cn (S q) ∧ sp_k (S j) < sp_k (S q)) := dz_bt hc89
                  refine dz_aload x.1 5 d_Reader_ruleAt_92 rfl ?_
                  refine dz_astore_n (ls' := [(0, .ref (b + 78)), (1, .ref (b + (82 + 4 * i))), (2, .int (dz_i p)), (3, .ref (b + (5 + 3 * j))), (4, .int (dz_i (j : Int))), (5, .ref (b + (5 + 3 * j)))]) x.1 d_Reader_ruleAt_94 rfl hN (by decide) rfl ?_
                  refine dz_iinc (z := (j : Int) + 1) (ls' := [(0, .ref (b + 78)), (1, .ref (b + (82 + 4 * i))), (2, .int (dz_i p)), (3, .ref (b + (5 + 3 * j))), (4, .int (dz_i ((j : Int) + 1))), (5, .ref (b + (5 + 3 * j)))]) x.1 4 d_Reader_ruleAt_95 rfl hN (by decide) (by omega) rfl ?_
                  refine dz_goto (tgt := 5) x.1 d_Reader_ruleAt_98 (by decide) ?_
                  refine dz_take 5 (ls' := [(0, .ref (b + 78)), (1, .ref (b + (82 + 4 * i))), (2, .int (dz_i p)), (3, .ref (b + (5 + 3 * j))), (4, .int (dz_i ((j : Int) + 1)))]) rfl ?_
                  exact ih (j + 1) _ (by omega) (Or.inr ⟨j, by omega, rfl, sp_best_t hb hM (decide_eq_true hc89)⟩)
            · refine dz_iconst x.1 d_Reader_ruleAt_68 ?_
              refine dz_goto (tgt := 73) x.1 d_Reader_ruleAt_69 (by decide) ?_
              refine ly_callV (rest := []) x cl_Reader_104 (c_Rule_applies l D Dt b sz I j hj9 (S j) (RI.2.2 j (by omega)).1 (RI.2.2 j (by omega)).2 false true) (by decide) (ly_Rule b hj9) rfl rfl rfl rfl (Nat.le_of_ble_eq_true rfl) d_Reader_ruleAt_73 (fun v I' hp73 => ?_)
              obtain ⟨rfl, hp73I⟩ := hp73
              have hp73I := hp73I.symm
              subst hp73I
              show ly_V κ b sz I 76 [(0, .ref (b + 78)), (1, .ref (b + (82 + 4 * i))), (2, .int (dz_i p)), (3, .ref (b + (5 + 3 * q))), (4, .int (dz_i (j : Int))), (5, .ref (b + (5 + 3 * j)))] [.int (dz_i (if sp_app (sp_k (S j)) false true = true then 1 else 0))]
              refine dz_if_eq (tgt := 95) x.1 d_Reader_ruleAt_76 (by decide) (dz_br _) (fun hc76 => ?_) (fun hc76 => ?_)
              · have hc76 : ¬ (sp_app (sp_k (S j)) false true = true) := dz_bf hc76
                refine dz_iinc (z := (j : Int) + 1) (ls' := [(0, .ref (b + 78)), (1, .ref (b + (82 + 4 * i))), (2, .int (dz_i p)), (3, .ref (b + (5 + 3 * q))), (4, .int (dz_i ((j : Int) + 1))), (5, .ref (b + (5 + 3 * j)))]) x.1 4 d_Reader_ruleAt_95 rfl hN (by decide) (by omega) rfl ?_
                refine dz_goto (tgt := 5) x.1 d_Reader_ruleAt_98 (by decide) ?_
                refine dz_take 5 (ls' := [(0, .ref (b + 78)), (1, .ref (b + (82 + 4 * i))), (2, .int (dz_i p)), (3, .ref (b + (5 + 3 * q))), (4, .int (dz_i ((j : Int) + 1)))]) rfl ?_
                first
                  | exact ih (j + 1) _ (by omega) (Or.inr ⟨q, hq, rfl, sp_best_f hb (fun z => hc89 (of_decide_eq_true z))⟩)
                  | exact ih (j + 1) _ (by omega) (Or.inr ⟨q, hq, rfl, (sp_best_n (by
                      intro h
                      unfold sp_mcs at h
                      first
                        | exact hc36 (Bool.and_eq_true_iff.mp h).1
                        | (first | rw [decide_eq_true hc46] at h | rw [decide_eq_false hc46] at h) <;> (first | rw [decide_eq_true hc65] at h | rw [decide_eq_false hc65] at h) <;> exact hc76 (Bool.and_eq_true_iff.mp h).2)).trans hb⟩)
              · have hc76 : sp_app (sp_k (S j)) false true = true := dz_bt hc76
                have hM : sp_mcs h S bg e p j = true := by
                  unfold sp_mcs
                  rw [hc36]
                  first | rw [decide_eq_true hc46] | rw [decide_eq_false hc46]
                  first | rw [decide_eq_true hc65] | rw [decide_eq_false hc65]
                  rw [hc76]; rfl
                refine dz_aload_n x.1 3 d_Reader_ruleAt_79 rfl rfl ?_
                refine dz_ifnull x.1 d_Reader_ruleAt_80 ?_
                refine dz_aload x.1 5 d_Reader_ruleAt_83 rfl ?_
                refine dz_aload_n x.1 3 d_Reader_ruleAt_85 rfl rfl ?_
                refine ly_callS (rest := []) x cl_Reader_108 (c_Reader_isBetter l D Dt b sz I j hj9 (S j) (RI.2.2 j (by omega)).1 (RI.2.2 j (by omega)).2 q (by omega) (S q) (RI.2.2 q (by omega)).1 (RI.2.2 q (by omega)).2) (by decide) rfl rfl (Nat.le_of_ble_eq_true rfl) d_Reader_ruleAt_86 (fun v I' hp86 => ?_)
                obtain ⟨rfl, hp86I⟩ := hp86
                have hp86I := hp86I.symm
                subst hp86I
                show ly_V κ b sz I 89 [(0, .ref (b + 78)), (1, .ref (b + (82 + 4 * i))), (2, .int (dz_i p)), (3, .ref (b + (5 + 3 * q))), (4, .int (dz_i (j : Int))), (5, .ref (b + (5 + 3 * j)))] [.int (dz_i (if sp_cn (S q) < sp_cn (S j) ∨ (sp_cn (S j) = sp_cn (S q) ∧ sp_k (S j) < sp_k (S q)) then 1 else 0))]
                refine dz_if_eq (tgt := 95) x.1 d_Reader_ruleAt_89 (by decide) (dz_br _) (fun hc89 => ?_) (fun hc89 => ?_)
                · have hc89 : ¬ (sp_cn (S q) < sp_cn (S j) ∨ (sp_cn (S j) = sp_cn (S q) ∧ sp_k (S j) < sp_k (S q))) := dz_bf hc89
                  refine dz_iinc (z := (j : Int) + 1) (ls' := [(0, .ref (b + 78)), (1, .ref (b + (82 + 4 * i))), (2, .int (dz_i p)), (3, .ref (b + (5 + 3 * q))), (4, .int (dz_i ((j : Int) + 1))), (5, .ref (b + (5 + 3 * j)))]) x.1 4 d_Reader_ruleAt_95 rfl hN (by decide) (by omega) rfl ?_
                  refine dz_goto (tgt := 5) x.1 d_Reader_ruleAt_98 (by decide) ?_
                  refine dz_take 5 (ls' := [(0, .ref (b + 78)), (1, .ref (b + (82 + 4 * i))), (2, .int (dz_i p)), (3, .ref (b + (5 + 3 * q))), (4, .int (dz_i ((j : Int) + 1)))]) rfl ?_
                  first
                    | exact ih (j + 1) _ (by omega) (Or.inr ⟨q, hq, rfl, sp_best_f hb (fun z => hc89 (of_decide_eq_true z))⟩)
                    | exact ih (j + 1) _ (by omega) (Or.inr ⟨q, hq, rfl, (sp_best_n (by
                        intro h
                        unfold sp_mcs at h
                        first
                          | exact hc36 (Bool.and_eq_true_iff.mp h).1
                          | (first | rw [decide_eq_true hc46] at h | rw [decide_eq_false hc46] at h) <;> (first | rw [decide_eq_true hc65] at h | rw [decide_eq_false hc65] at h) <;> exact hc76 (Bool.and_eq_true_iff.mp h).2)).trans hb⟩)
                · have hc89 : sp_cn (S q) < sp_cn (S j) ∨ (sp_cn (S j) = sp_cn (S q) ∧ sp_k (S j) < sp_k (S q)) := dz_bt hc89
                  refine dz_aload x.1 5 d_Reader_ruleAt_92 rfl ?_
                  refine dz_astore_n (ls' := [(0, .ref (b + 78)), (1, .ref (b + (82 + 4 * i))), (2, .int (dz_i p)), (3, .ref (b + (5 + 3 * j))), (4, .int (dz_i (j : Int))), (5, .ref (b + (5 + 3 * j)))]) x.1 d_Reader_ruleAt_94 rfl hN (by decide) rfl ?_
                  refine dz_iinc (z := (j : Int) + 1) (ls' := [(0, .ref (b + 78)), (1, .ref (b + (82 + 4 * i))), (2, .int (dz_i p)), (3, .ref (b + (5 + 3 * j))), (4, .int (dz_i ((j : Int) + 1))), (5, .ref (b + (5 + 3 * j)))]) x.1 4 d_Reader_ruleAt_95 rfl hN (by decide) (by omega) rfl ?_
                  refine dz_goto (tgt := 5) x.1 d_Reader_ruleAt_98 (by decide) ?_
                  refine dz_take 5 (ls' := [(0, .ref (b + 78)), (1, .ref (b + (82 + 4 * i))), (2, .int (dz_i p)), (3, .ref (b + (5 + 3 * j))), (4, .int (dz_i ((j : Int) + 1)))]) rfl ?_
                  exact ih (j + 1) _ (by omega) (Or.inr ⟨j, by omega, rfl, sp_best_t hb hM (decide_eq_true hc89)⟩)
          · refine dz_iconst x.1 d_Reader_ruleAt_49 ?_
            refine dz_goto (tgt := 54) x.1 d_Reader_ruleAt_50 (by decide) ?_
            refine dz_iload_n x.1 2 d_Reader_ruleAt_54 rfl rfl ?_
            refine dz_aload x.1 5 d_Reader_ruleAt_55 rfl ?_
            refine dz_geti (z := (sp_cn (S j))) x.1 (ly_Rule b hj9) fl_Reader_91 d_Reader_ruleAt_57 (RI.2.2 j (by omega)).1.2.2.1 ?_
            refine dz_iadd (z := p + (sp_cn (S j))) x.1 d_Reader_ruleAt_60 (by omega) ?_
            refine dz_aload_n x.1 0 d_Reader_ruleAt_61 rfl rfl ?_
            refine dz_geti (z := e) x.1 (ly_Reader b) fl_Reader_48 d_Reader_ruleAt_62 LI.2.1 ?_
            refine dz_icmp_ne (tgt := 72) x.1 d_Reader_ruleAt_65 (by decide) (by omega) (by omega) (fun hc65 => ?_) (fun hc65 => ?_)
            · refine dz_iconst x.1 d_Reader_ruleAt_72 ?_
              refine ly_callV (rest := []) x cl_Reader_104 (c_Rule_applies l D Dt b sz I j hj9 (S j) (RI.2.2 j (by omega)).1 (RI.2.2 j (by omega)).2 true false) (by decide) (ly_Rule b hj9) rfl rfl rfl rfl (Nat.le_of_ble_eq_true rfl) d_Reader_ruleAt_73 (fun v I' hp73 => ?_)
              obtain ⟨rfl, hp73I⟩ := hp73
              have hp73I := hp73I.symm
              subst hp73I
              show ly_V κ b sz I 76 [(0, .ref (b + 78)), (1, .ref (b + (82 + 4 * i))), (2, .int (dz_i p)), (3, .ref (b + (5 + 3 * q))), (4, .int (dz_i (j : Int))), (5, .ref (b + (5 + 3 * j)))] [.int (dz_i (if sp_app (sp_k (S j)) true false = true then 1 else 0))]
              refine dz_if_eq (tgt := 95) x.1 d_Reader_ruleAt_76 (by decide) (dz_br _) (fun hc76 => ?_) (fun hc76 => ?_)
              · have hc76 : ¬ (sp_app (sp_k (S j)) true false = true) := dz_bf hc76
                refine dz_iinc (z := (j : Int) + 1) (ls' := [(0, .ref (b + 78)), (1, .ref (b + (82 + 4 * i))), (2, .int (dz_i p)), (3, .ref (b + (5 + 3 * q))), (4, .int (dz_i ((j : Int) + 1))), (5, .ref (b + (5 + 3 * j)))]) x.1 4 d_Reader_ruleAt_95 rfl hN (by decide) (by omega) rfl ?_
                refine dz_goto (tgt := 5) x.1 d_Reader_ruleAt_98 (by decide) ?_
                refine dz_take 5 (ls' := [(0, .ref (b + 78)), (1, .ref (b + (82 + 4 * i))), (2, .int (dz_i p)), (3, .ref (b + (5 + 3 * q))), (4, .int (dz_i ((j : Int) + 1)))]) rfl ?_
                first
                  | exact ih (j + 1) _ (by omega) (Or.inr ⟨q, hq, rfl, sp_best_f hb (fun z => hc89 (of_decide_eq_true z))⟩)
                  | exact ih (j + 1) _ (by omega) (Or.inr ⟨q, hq, rfl, (sp_best_n (by
                      intro h
                      unfold sp_mcs at h
                      first
                        | exact hc36 (Bool.and_eq_true_iff.mp h).1
                        | (first | rw [decide_eq_true hc46] at h | rw [decide_eq_false hc46] at h) <;> (first | rw [decide_eq_true hc65] at h | rw [decide_eq_false hc65] at h) <;> exact hc76 (Bool.and_eq_true_iff.mp h).2)).trans hb⟩)
              · have hc76 : sp_app (sp_k (S j)) true false = true := dz_bt hc76
                have hM : sp_mcs h S bg e p j = true := by
                  unfold sp_mcs
                  rw [hc36]
                  first | rw [decide_eq_true hc46] | rw [decide_eq_false hc46]
                  first | rw [decide_eq_true hc65] | rw [decide_eq_false hc65]
                  rw [hc76]; rfl
                refine dz_aload_n x.1 3 d_Reader_ruleAt_79 rfl rfl ?_
                refine dz_ifnull x.1 d_Reader_ruleAt_80 ?_
                refine dz_aload x.1 5 d_Reader_ruleAt_83 rfl ?_
                refine dz_aload_n x.1 3 d_Reader_ruleAt_85 rfl rfl ?_
                refine ly_callS (rest := []) x cl_Reader_108 (c_Reader_isBetter l D Dt b sz I j hj9 (S j) (RI.2.2 j (by omega)).1 (RI.2.2 j (by omega)).2 q (by omega) (S q) (RI.2.2 q (by omega)).1 (RI.2.2 q (by omega)).2) (by decide) rfl rfl (Nat.le_of_ble_eq_true rfl) d_Reader_ruleAt_86 (fun v I' hp86 => ?_)
                obtain ⟨rfl, hp86I⟩ := hp86
                have hp86I := hp86I.symm
                subst hp86I
                show ly_V κ b sz I 89 [(0, .ref (b + 78)), (1, .ref (b + (82 + 4 * i))), (2, .int (dz_i p)), (3, .ref (b + (5 + 3 * q))), (4, .int (dz_i (j : Int))), (5, .ref (b + (5 + 3 * j)))] [.int (dz_i (if sp_cn (S q) < sp_cn (S j) ∨ (sp_cn (S j) = sp_cn (S q) ∧ sp_k (S j) < sp_k (S q)) then 1 else 0))]
                refine dz_if_eq (tgt := 95) x.1 d_Reader_ruleAt_89 (by decide) (dz_br _) (fun hc89 => ?_) (fun hc89 => ?_)
                · have hc89 : ¬ (sp_cn (S q) < sp_cn (S j) ∨ (sp_cn (S j) = sp_cn (S q) ∧ sp_k (S j) < sp_k (S q))) := dz_bf hc89
                  refine dz_iinc (z := (j : Int) + 1) (ls' := [(0, .ref (b + 78)), (1, .ref (b + (82 + 4 * i))), (2, .int (dz_i p)), (3, .ref (b + (5 + 3 * q))), (4, .int (dz_i ((j : Int) + 1))), (5, .ref (b + (5 + 3 * j)))]) x.1 4 d_Reader_ruleAt_95 rfl hN (by decide) (by omega) rfl ?_
                  refine dz_goto (tgt := 5) x.1 d_Reader_ruleAt_98 (by decide) ?_
                  refine dz_take 5 (ls' := [(0, .ref (b + 78)), (1, .ref (b + (82 + 4 * i))), (2, .int (dz_i p)), (3, .ref (b + (5 + 3 * q))), (4, .int (dz_i ((j : Int) + 1)))]) rfl ?_
                  first
                    | exact ih (j + 1) _ (by omega) (Or.inr ⟨q, hq, rfl, sp_best_f hb (fun z => hc89 (of_decide_eq_true z))⟩)
                    | exact ih (j + 1) _ (by omega) (Or.inr ⟨q, hq, rfl, (sp_best_n (by
                        intro h
                        unfold sp_mcs at h
                        first
                          | exact hc36 (Bool.and_eq_true_iff.mp h).1
                          | (first | rw [decide_eq_true hc46] at h | rw [decide_eq_false hc46] at h) <;> (first | rw [decide_eq_true hc65] at h | rw [decide_eq_false hc65] at h) <;> exact hc76 (Bool.and_eq_true_iff.mp h).2)).trans hb⟩)
                · have hc89 : sp_cn (S q) < sp_cn (S j) ∨ (sp_cn (S j) = sp_cn (S q) ∧ sp_k (S j) < sp_k (S q)) := dz_bt hc89
                  refine dz_aload x.1 5 d_Reader_ruleAt_92 rfl ?_
                  refine dz_astore_n (ls' := [(0, .ref (b + 78)), (1, .ref (b + (82 + 4 * i))), (2, .int (dz_i p)), (3, .ref (b + (5 + 3 * j))), (4, .int (dz_i (j : Int))), (5, .ref (b + (5 + 3 * j)))]) x.1 d_Reader_ruleAt_94 rfl hN (by decide) rfl ?_
                  refine dz_iinc (z := (j : Int) + 1) (ls' := [(0, .ref (b + 78)), (1, .ref (b + (82 + 4 * i))), (2, .int (dz_i p)), (3, .ref (b + (5 + 3 * j))), (4, .int (dz_i ((j : Int) + 1))), (5, .ref (b + (5 + 3 * j)))]) x.1 4 d_Reader_ruleAt_95 rfl hN (by decide) (by omega) rfl ?_
                  refine dz_goto (tgt := 5) x.1 d_Reader_ruleAt_98 (by decide) ?_
                  refine dz_take 5 (ls' := [(0, .ref (b + 78)), (1, .ref (b + (82 + 4 * i))), (2, .int (dz_i p)), (3, .ref (b + (5 + 3 * j))), (4, .int (dz_i ((j : Int) + 1)))]) rfl ?_
                  exact ih (j + 1) _ (by omega) (Or.inr ⟨j, by omega, rfl, sp_best_t hb hM (decide_eq_true hc89)⟩)
            · refine dz_iconst x.1 d_Reader_ruleAt_68 ?_
              refine dz_goto (tgt := 73) x.1 d_Reader_ruleAt_69 (by decide) ?_
              refine ly_callV (rest := []) x cl_Reader_104 (c_Rule_applies l D Dt b sz I j hj9 (S j) (RI.2.2 j (by omega)).1 (RI.2.2 j (by omega)).2 true true) (by decide) (ly_Rule b hj9) rfl rfl rfl rfl (Nat.le_of_ble_eq_true rfl) d_Reader_ruleAt_73 (fun v I' hp73 => ?_)
              obtain ⟨rfl, hp73I⟩ := hp73
              have hp73I := hp73I.symm
              subst hp73I
              show ly_V κ b sz I 76 [(0, .ref (b + 78)), (1, .ref (b + (82 + 4 * i))), (2, .int (dz_i p)), (3, .ref (b + (5 + 3 * q))), (4, .int (dz_i (j : Int))), (5, .ref (b + (5 + 3 * j)))] [.int (dz_i (if sp_app (sp_k (S j)) true true = true then 1 else 0))]
              refine dz_if_eq (tgt := 95) x.1 d_Reader_ruleAt_76 (by decide) (dz_br _) (fun hc76 => ?_) (fun hc76 => ?_)
              · have hc76 : ¬ (sp_app (sp_k (S j)) true true = true) := dz_bf hc76
                refine dz_iinc (z := (j : Int) + 1) (ls' := [(0, .ref (b + 78)), (1, .ref (b + (82 + 4 * i))), (2, .int (dz_i p)), (3, .ref (b + (5 + 3 * q))), (4, .int (dz_i ((j : Int) + 1))), (5, .ref (b + (5 + 3 * j)))]) x.1 4 d_Reader_ruleAt_95 rfl hN (by decide) (by omega) rfl ?_
                refine dz_goto (tgt := 5) x.1 d_Reader_ruleAt_98 (by decide) ?_
                refine dz_take 5 (ls' := [(0, .ref (b + 78)), (1, .ref (b + (82 + 4 * i))), (2, .int (dz_i p)), (3, .ref (b + (5 + 3 * q))), (4, .int (dz_i ((j : Int) + 1)))]) rfl ?_
                first
                  | exact ih (j + 1) _ (by omega) (Or.inr ⟨q, hq, rfl, sp_best_f hb (fun z => hc89 (of_decide_eq_true z))⟩)
                  | exact ih (j + 1) _ (by omega) (Or.inr ⟨q, hq, rfl, (sp_best_n (by
                      intro h
                      unfold sp_mcs at h
                      first
                        | exact hc36 (Bool.and_eq_true_iff.mp h).1
                        | (first | rw [decide_eq_true hc46] at h | rw [decide_eq_false hc46] at h) <;> (first | rw [decide_eq_true hc65] at h | rw [decide_eq_false hc65] at h) <;> exact hc76 (Bool.and_eq_true_iff.mp h).2)).trans hb⟩)
              · have hc76 : sp_app (sp_k (S j)) true true = true := dz_bt hc76
                have hM : sp_mcs h S bg e p j = true := by
                  unfold sp_mcs
                  rw [hc36]
                  first | rw [decide_eq_true hc46] | rw [decide_eq_false hc46]
                  first | rw [decide_eq_true hc65] | rw [decide_eq_false hc65]
                  rw [hc76]; rfl
                refine dz_aload_n x.1 3 d_Reader_ruleAt_79 rfl rfl ?_
                refine dz_ifnull x.1 d_Reader_ruleAt_80 ?_
                refine dz_aload x.1 5 d_Reader_ruleAt_83 rfl ?_
                refine dz_aload_n x.1 3 d_Reader_ruleAt_85 rfl rfl ?_
                refine ly_callS (rest := []) x cl_Reader_108 (c_Reader_isBetter l D Dt b sz I j hj9 (S j) (RI.2.2 j (by omega)).1 (RI.2.2 j (by omega)).2 q (by omega) (S q) (RI.2.2 q (by omega)).1 (RI.2.2 q (by omega)).2) (by decide) rfl rfl (Nat.le_of_ble_eq_true rfl) d_Reader_ruleAt_86 (fun v I' hp86 => ?_)
                obtain ⟨rfl, hp86I⟩ := hp86
                have hp86I := hp86I.symm
                subst hp86I
                show ly_V κ b sz I 89 [(0, .ref (b + 78)), (1, .ref (b + (82 + 4 * i))), (2, .int (dz_i p)), (3, .ref (b + (5 + 3 * q))), (4, .int (dz_i (j : Int))), (5, .ref (b + (5 + 3 * j)))] [.int (dz_i (if sp_cn (S q) < sp_cn (S j) ∨ (sp_cn (S j) = sp_cn (S q) ∧ sp_k (S j) < sp_k (S q)) then 1 else 0))]
                refine dz_if_eq (tgt := 95) x.1 d_Reader_ruleAt_89 (by decide) (dz_br _) (fun hc89 => ?_) (fun hc89 => ?_)
                · have hc89 : ¬ (sp_cn (S q) < sp_cn (S j) ∨ (sp_cn (S j) = sp_cn (S q) ∧ sp_k (S j) < sp_k (S q))) := dz_bf hc89
                  refine dz_iinc (z := (j : Int) + 1) (ls' := [(0, .ref (b + 78)), (1, .ref (b + (82 + 4 * i))), (2, .int (dz_i p)), (3, .ref (b + (5 + 3 * q))), (4, .int (dz_i ((j : Int) + 1))), (5, .ref (b + (5 + 3 * j)))]) x.1 4 d_Reader_ruleAt_95 rfl hN (by decide) (by omega) rfl ?_
                  refine dz_goto (tgt := 5) x.1 d_Reader_ruleAt_98 (by decide) ?_
                  refine dz_take 5 (ls' := [(0, .ref (b + 78)), (1, .ref (b + (82 + 4 * i))), (2, .int (dz_i p)), (3, .ref (b + (5 + 3 * q))), (4, .int (dz_i ((j : Int) + 1)))]) rfl ?_
                  first
                    | exact ih (j + 1) _ (by omega) (Or.inr ⟨q, hq, rfl, sp_best_f hb (fun z => hc89 (of_decide_eq_true z))⟩)
                    | exact ih (j + 1) _ (by omega) (Or.inr ⟨q, hq, rfl, (sp_best_n (by
                        intro h
                        unfold sp_mcs at h
                        first
                          | exact hc36 (Bool.and_eq_true_iff.mp h).1
                          | (first | rw [decide_eq_true hc46] at h | rw [decide_eq_false hc46] at h) <;> (first | rw [decide_eq_true hc65] at h | rw [decide_eq_false hc65] at h) <;> exact hc76 (Bool.and_eq_true_iff.mp h).2)).trans hb⟩)
                · have hc89 : sp_cn (S q) < sp_cn (S j) ∨ (sp_cn (S j) = sp_cn (S q) ∧ sp_k (S j) < sp_k (S q)) := dz_bt hc89
                  refine dz_aload x.1 5 d_Reader_ruleAt_92 rfl ?_
                  refine dz_astore_n (ls' := [(0, .ref (b + 78)), (1, .ref (b + (82 + 4 * i))), (2, .int (dz_i p)), (3, .ref (b + (5 + 3 * j))), (4, .int (dz_i (j : Int))), (5, .ref (b + (5 + 3 * j)))]) x.1 d_Reader_ruleAt_94 rfl hN (by decide) rfl ?_
                  refine dz_iinc (z := (j : Int) + 1) (ls' := [(0, .ref (b + 78)), (1, .ref (b + (82 + 4 * i))), (2, .int (dz_i p)), (3, .ref (b + (5 + 3 * j))), (4, .int (dz_i ((j : Int) + 1))), (5, .ref (b + (5 + 3 * j)))]) x.1 4 d_Reader_ruleAt_95 rfl hN (by decide) (by omega) rfl ?_
                  refine dz_goto (tgt := 5) x.1 d_Reader_ruleAt_98 (by decide) ?_
                  refine dz_take 5 (ls' := [(0, .ref (b + 78)), (1, .ref (b + (82 + 4 * i))), (2, .int (dz_i p)), (3, .ref (b + (5 + 3 * j))), (4, .int (dz_i ((j : Int) + 1)))]) rfl ?_
                  exact ih (j + 1) _ (by omega) (Or.inr ⟨j, by omega, rfl, sp_best_t hb hM (decide_eq_true hc89)⟩)
  show ly_V κ b sz I 0 [(0, .ref (b + 78)), (1, .ref (b + (82 + 4 * i))), (2, .int (dz_i p))] []
  refine dz_null x.1 d_Reader_ruleAt_0 ?_
  refine dz_astore_nN (ls' := [(0, .ref (b + 78)), (1, .ref (b + (82 + 4 * i))), (2, .int (dz_i p)), (3, .null)]) x.1 d_Reader_ruleAt_1 rfl hN (by decide) rfl ?_
  refine dz_iconst x.1 d_Reader_ruleAt_2 ?_
  refine dz_istore (ls' := [(0, .ref (b + 78)), (1, .ref (b + (82 + 4 * i))), (2, .int (dz_i p)), (3, .null), (4, .int (dz_i 0))]) x.1 d_Reader_ruleAt_3 hN (by decide) rfl ?_
  exact loop c 0 _ (by omega) (Or.inl ⟨rfl, rfl⟩)
set_option maxRecDepth 100000 in
set_option maxHeartbeats 4000000 in
theorem c_Reader_passCapitalSigns (l : Launch) (D : va_G) (Dt : Nat → ClassId) (b sz : Nat) (I : dz_Hp) (i : Nat) (hi : i < 12) (m : Int) (h : Int → Int) (BI : sp_B b i I m h) (p : Int) (hp : 0 ≤ p ∧ p ≤ m) : ly_M l D Dt b sz y_Reader_passCapitalSigns b_Reader_passCapitalSigns 4 (some .int) 3 [.ref (b + 78), .ref (b + (82 + 4 * i)), .int (dz_i p)] I (fun v I' => v = some (.int (dz_i (sp_cs h p - p))) ∧ ((sp_cs h p - p = 1 ∧ I' = dz_up I (b + 78) 6 1) ∨ (¬ sp_cs h p - p = 1 ∧ I' = dz_up I (b + 78) 7 1))) := by
  refine ly_enter R_Reader (by decide) rfl (Nat.le_of_ble_eq_true rfl) (ly_cat _ 0 rfl) (fun κ x => ?_)
  have hN := ly_N x
  have hr1 := (sp_run_spec (sp_is32 h) 300 p).1
  have hr2 := (sp_run_spec (sp_is32 h) 300 p).2.1
  change p ≤ sp_cs h p at hr1
  change sp_cs h p ≤ p + 300 at hr2
  have hm9 := BI.2.1
  show ly_V κ b sz I 0 [(0, .ref (b + 78)), (1, .ref (b + (82 + 4 * i))), (2, .int (dz_i p))] []
  refine dz_aload_n x.1 1 d_Reader_passCapitalSigns_0 rfl rfl ?_
  refine dz_iload_n x.1 2 d_Reader_passCapitalSigns_1 rfl rfl ?_
  refine ly_callS (rest := []) x cl_Reader_38 (c_Reader_capitalSignsAt l D Dt b sz I i hi m h BI p hp) (by decide) rfl rfl (Nat.le_of_ble_eq_true rfl) d_Reader_passCapitalSigns_2 (fun v I' hp2 => ?_)
  obtain ⟨rfl, hp2I⟩ := hp2
  have hp2I := hp2I.symm
  subst hp2I
  show ly_V κ b sz I 5 [(0, .ref (b + 78)), (1, .ref (b + (82 + 4 * i))), (2, .int (dz_i p))] [.int (dz_i ((sp_cs h p) - p))]
  refine dz_istore_n (ls' := [(0, .ref (b + 78)), (1, .ref (b + (82 + 4 * i))), (2, .int (dz_i p)), (3, .int (dz_i ((sp_cs h p) - p)))]) x.1 d_Reader_passCapitalSigns_5 rfl hN (by decide) rfl ?_
  refine dz_iload_n x.1 3 d_Reader_passCapitalSigns_6 rfl rfl ?_
  refine dz_iconst x.1 d_Reader_passCapitalSigns_7 ?_
  refine dz_icmp_ne (tgt := 19) x.1 d_Reader_passCapitalSigns_8 (by decide) (by omega) (by omega) (fun hc8 => ?_) (fun hc8 => ?_)
  · refine dz_aload_n x.1 0 d_Reader_passCapitalSigns_19 rfl rfl ?_
    refine dz_iconst x.1 d_Reader_passCapitalSigns_20 ?_
    refine dz_putz x.1 (ly_Reader b) fl_Reader_58 fp_Reader_7 (by omega) d_Reader_passCapitalSigns_21 ?_
    refine dz_iload_n x.1 3 d_Reader_passCapitalSigns_24 rfl rfl ?_
    exact ly_iret x d_Reader_passCapitalSigns_25 rfl ⟨rfl, Or.inr ⟨by omega, rfl⟩⟩
  · refine dz_aload_n x.1 0 d_Reader_passCapitalSigns_11 rfl rfl ?_
    refine dz_iconst x.1 d_Reader_passCapitalSigns_12 ?_
    refine dz_putz x.1 (ly_Reader b) fl_Reader_55 fp_Reader_6 (by omega) d_Reader_passCapitalSigns_13 ?_
    refine dz_goto (tgt := 24) x.1 d_Reader_passCapitalSigns_16 (by decide) ?_
    refine dz_iload_n x.1 3 d_Reader_passCapitalSigns_24 rfl rfl ?_
    exact ly_iret x d_Reader_passCapitalSigns_25 rfl ⟨rfl, Or.inl ⟨by omega, rfl⟩⟩
