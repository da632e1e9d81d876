theorem sp_hh_in {m : Int} {h : Int → Int} (H : sp_hh m h) {f p : Int} (hf : 0 ≤ f ∧ f ≤ m) (hp : f ≤ p ∧ p < sp_ep h f) : 0 ≤ p ∧ p < m ∧ sp_ep h f ≤ m := by
  have := sp_hh_ep H hf
  omega
theorem sp_dec_B {B p q : Int} : decide (B + p = B + q) = decide (p = q) := decide_eq_decide.mpr (by omega)
theorem sp_dec_B2 {B p c q : Int} : decide (B + p + c = B + q) = decide (p + c = q) := decide_eq_decide.mpr (by omega)
theorem sp_ro_len {h : Int → Int} {c : Nat} {S : Nat → sp_Ru} {bg e : Int} {nx rs : Bool} {p : Int} {j : Nat} (hb : sp_best (sp_mcs h S bg e p) (sp_btc S) c = some j) : (sp_ro h c S bg e nx rs p).1.length = (sp_ln (S j)).toNat := by
  unfold sp_ro; rw [hb]; exact sp_ll_len _ _ _ _
set_option maxRecDepth 100000 in
set_option maxHeartbeats 4000000 in
theorem c_Model_cellsStand (l : Launch) (D : va_G) (Dt : Nat → ClassId) (b sz : Nat) (I : dz_Hp) (c : Nat) (S : Nat → sp_Ru) (RI : sp_MR b I c S) (B m : Int) (h : Int → Int) (CI : sp_MC b I B m h) (r : Nat) (hrc : r < c) (f e p bg : Int) (hf : 0 ≤ f ∧ f ≤ m) (he : e = sp_ep h f) (hp : f ≤ p ∧ p < e) (hbg : f ≤ bg ∧ bg ≤ e)  : ly_M l D Dt b sz y_Model_cellsStand b_Model_cellsStand 8 (some .boolean) 2 [.ref (b + 130), .int (dz_i (r : Int)), .int (dz_i (B + p)), .int (dz_i (B + bg)), .int (dz_i (B + e))] I (fun v I' => v = some (.int (dz_i (if sp_mcs h S bg e p r = true then 1 else 0))) ∧ I' = I) := by
  refine ly_enter R_Model (by decide) rfl (Nat.le_of_ble_eq_true rfl) (ly_cat _ 0 rfl) (fun κ x => ?_)
  have hN := ly_N x
  have hc24 := RI.2.1
  have hr1 := RI.2.2 r hrc
  have hw0 := hr1.2.1
  have hw1 := hr1.2.2.2.1
  have hB := CI.2.1
  have hm := CI.1.1
  have hin9 := sp_hh_in CI.1 hf (p := p) (by omega)
  rw [← he] at hin9
  have loop : ∀ (k : Nat) (i : Int), (0 ≤ i ∧ i + (k : Int) = sp_cn (S r)) → (p + sp_cn (S r) ≤ e) → (sp_app (sp_k (S r)) (decide (p = bg)) (decide (p + sp_cn (S r) = e)) = true) → (∀ j : Int, 0 ≤ j → j < i → sp_hc h p (S r) j = true) → ly_V κ b sz I 46 [(0, .ref (b + 130)), (1, .int (dz_i (r : Int))), (2, .int (dz_i (B + p))), (3, .int (dz_i (B + bg))), (4, .int (dz_i (B + e))), (5, .int (dz_i (sp_cn (S r)))), (6, .int (dz_i 1)), (7, .int (dz_i i))] [] := by
    intro k
    induction k with
    | zero =>
      intro i hi hin hap hl
      refine dz_iload x.1 7 d_Model_cellsStand_46 rfl ?_
      refine dz_iload x.1 5 d_Model_cellsStand_48 rfl ?_
      refine dz_icmp_ge (tgt := 94) x.1 d_Model_cellsStand_50 (by decide) (by omega) (by omega) (fun hc50 => ?_) (fun hc50 => by exfalso; omega)
      refine dz_iload x.1 6 d_Model_cellsStand_94 rfl ?_
      exact ly_iret x d_Model_cellsStand_96 (dz_nbo (by omega)) ⟨by rw [sp_bt (by unfold sp_mcs; rw [sp_all_t (fun j j1 j2 => hl j j1 (by omega)), hap]; rfl)], rfl⟩
    | succ k ih =>
      intro i hi hin hap hl
      refine dz_iload x.1 7 d_Model_cellsStand_46 rfl ?_
      refine dz_iload x.1 5 d_Model_cellsStand_48 rfl ?_
      refine dz_icmp_ge (tgt := 94) x.1 d_Model_cellsStand_50 (by decide) (by omega) (by omega) (fun hc50 => by exfalso; omega) (fun hc50 => ?_)
      refine dz_iload x.1 6 d_Model_cellsStand_53 rfl ?_
      refine dz_if_eq (tgt := 94) x.1 d_Model_cellsStand_55 (by decide) (by omega) (fun hc55 => by exfalso; omega) (fun hc55 => ?_)
      have hhi := CI.1.2.2 (p + i)
      have hce := hr1.2.2.2.2.2 i (by omega) (by omega)
      refine dz_aload_n x.1 0 d_Model_cellsStand_58 rfl rfl ?_
      refine dz_getr x.1 (ly_Model b) fl_Model_39 (lr_Model_15 b) d_Model_cellsStand_59 ?_
      refine dz_iload_n x.1 2 d_Model_cellsStand_62 rfl rfl ?_
      refine dz_iload x.1 7 d_Model_cellsStand_63 rfl ?_
      refine dz_iadd (z := B + p + i) x.1 d_Model_cellsStand_65 (by omega) ?_
      refine dz_iald (w := (h (p + i))) x.1 (ly_MCells b) (by decide) (by omega) d_Model_cellsStand_66 (by have h9 := CI.2.2 (p + i) (by omega) (by omega); rw [show B + (p + i) = B + p + i by omega] at h9; exact h9) ?_
      refine dz_aload_n x.1 0 d_Model_cellsStand_67 rfl rfl ?_
      refine dz_getr x.1 (ly_Model b) fl_Model_26 (lr_Model_10 b) d_Model_cellsStand_68 ?_
      refine dz_iconst x.1 d_Model_cellsStand_71 ?_
      refine dz_iload_n x.1 1 d_Model_cellsStand_72 rfl rfl ?_
      refine dz_imul (z := 3 * (r : Int)) x.1 d_Model_cellsStand_73 (by omega) ?_
      refine dz_iload x.1 7 d_Model_cellsStand_74 rfl ?_
      refine dz_iadd (z := 3 * (r : Int) + i) x.1 d_Model_cellsStand_76 (by omega) ?_
      refine dz_iald (w := (sp_ce (S r) i)) x.1 (ly_MRuleCells b) (by decide) (by omega) d_Model_cellsStand_77 (hr1.1.2.2.2.2 i (by omega) (by omega)) ?_
      refine dz_icmp_ne (tgt := 85) x.1 d_Model_cellsStand_78 (by decide) (by omega) (by omega) (fun hc78 => ?_) (fun hc78 => ?_)
      · refine dz_iconst x.1 d_Model_cellsStand_85 ?_
        refine dz_istore (ls' := [(0, .ref (b + 130)), (1, .int (dz_i (r : Int))), (2, .int (dz_i (B + p))), (3, .int (dz_i (B + bg))), (4, .int (dz_i (B + e))), (5, .int (dz_i (sp_cn (S r)))), (6, .int (dz_i 0)), (7, .int (dz_i i))]) x.1 d_Model_cellsStand_86 hN (by decide) rfl ?_
        refine dz_iinc (z := i + 1) (ls' := [(0, .ref (b + 130)), (1, .int (dz_i (r : Int))), (2, .int (dz_i (B + p))), (3, .int (dz_i (B + bg))), (4, .int (dz_i (B + e))), (5, .int (dz_i (sp_cn (S r)))), (6, .int (dz_i 0)), (7, .int (dz_i (i + 1)))]) x.1 7 d_Model_cellsStand_88 rfl hN (by decide) (by omega) rfl ?_
        refine dz_goto (tgt := 46) x.1 d_Model_cellsStand_91 (by decide) ?_
        refine dz_iload x.1 7 d_Model_cellsStand_46 rfl ?_
        refine dz_iload x.1 5 d_Model_cellsStand_48 rfl ?_
        refine dz_icmp_ge (tgt := 94) x.1 d_Model_cellsStand_50 (by decide) (by omega) (by omega) (fun hc50 => ?_) (fun hc50 => ?_)
        · refine dz_iload x.1 6 d_Model_cellsStand_94 rfl ?_
          exact ly_iret x d_Model_cellsStand_96 (dz_nbo (by omega)) ⟨by rw [sp_bf (by unfold sp_mcs; rw [sp_all_f (j := i) (by omega) (by omega) (decide_eq_false hc78)]; rfl)], rfl⟩
        · refine dz_iload x.1 6 d_Model_cellsStand_53 rfl ?_
          refine dz_if_eq (tgt := 94) x.1 d_Model_cellsStand_55 (by decide) (by omega) (fun hc55 => ?_) (fun hc55 => by exfalso; omega)
          refine dz_iload x.1 6 d_Model_cellsStand_94 rfl ?_
          exact ly_iret x d_Model_cellsStand_96 (dz_nbo (by omega)) ⟨by rw [sp_bf (by unfold sp_mcs; rw [sp_all_f (j := i) (by omega) (by omega) (decide_eq_false hc78)]; rfl)], rfl⟩
      · refine dz_iconst x.1 d_Model_cellsStand_81 ?_
        refine dz_goto (tgt := 86) x.1 d_Model_cellsStand_82 (by decide) ?_
        refine dz_istore (ls' := [(0, .ref (b + 130)), (1, .int (dz_i (r : Int))), (2, .int (dz_i (B + p))), (3, .int (dz_i (B + bg))), (4, .int (dz_i (B + e))), (5, .int (dz_i (sp_cn (S r)))), (6, .int (dz_i 1)), (7, .int (dz_i i))]) x.1 d_Model_cellsStand_86 hN (by decide) rfl ?_
        refine dz_iinc (z := i + 1) (ls' := [(0, .ref (b + 130)), (1, .int (dz_i (r : Int))), (2, .int (dz_i (B + p))), (3, .int (dz_i (B + bg))), (4, .int (dz_i (B + e))), (5, .int (dz_i (sp_cn (S r)))), (6, .int (dz_i 1)), (7, .int (dz_i (i + 1)))]) x.1 7 d_Model_cellsStand_88 rfl hN (by decide) (by omega) rfl ?_
        refine dz_goto (tgt := 46) x.1 d_Model_cellsStand_91 (by decide) ?_
        exact ih (i + 1) (by omega) hin hap (fun j j1 j2 => by
          by_cases e : j = i
          · rw [e]; exact decide_eq_true hc78
          · exact hl j j1 (by omega))
  show ly_V κ b sz I 0 [(0, .ref (b + 130)), (1, .int (dz_i (r : Int))), (2, .int (dz_i (B + p))), (3, .int (dz_i (B + bg))), (4, .int (dz_i (B + e)))] []
  refine dz_aload_n x.1 0 d_Model_cellsStand_0 rfl rfl ?_
  refine dz_getr x.1 (ly_Model b) fl_Model_23 (lr_Model_9 b) d_Model_cellsStand_1 ?_
  refine dz_iload_n x.1 1 d_Model_cellsStand_4 rfl rfl ?_
  refine dz_iald (w := (sp_cn (S r))) x.1 (ly_MCellCount b) (by decide) (by omega) d_Model_cellsStand_5 hr1.1.2.2.1 ?_
  refine dz_istore (ls' := [(0, .ref (b + 130)), (1, .int (dz_i (r : Int))), (2, .int (dz_i (B + p))), (3, .int (dz_i (B + bg))), (4, .int (dz_i (B + e))), (5, .int (dz_i (sp_cn (S r))))]) x.1 d_Model_cellsStand_6 hN (by decide) rfl ?_
  refine dz_iload_n x.1 2 d_Model_cellsStand_8 rfl rfl ?_
  refine dz_iload x.1 5 d_Model_cellsStand_9 rfl ?_
  refine dz_iadd (z := B + p + (sp_cn (S r))) x.1 d_Model_cellsStand_11 (by omega) ?_
  refine dz_iload x.1 4 d_Model_cellsStand_12 rfl ?_
  refine dz_icmp_gt (tgt := 40) x.1 d_Model_cellsStand_14 (by decide) (by omega) (by omega) (fun hc14 => ?_) (fun hc14 => ?_)
  · refine dz_iconst x.1 d_Model_cellsStand_40 ?_
    refine dz_istore (ls' := [(0, .ref (b + 130)), (1, .int (dz_i (r : Int))), (2, .int (dz_i (B + p))), (3, .int (dz_i (B + bg))), (4, .int (dz_i (B + e))), (5, .int (dz_i (sp_cn (S r)))), (6, .int (dz_i 0))]) x.1 d_Model_cellsStand_41 hN (by decide) rfl ?_
    refine dz_iconst x.1 d_Model_cellsStand_43 ?_
    refine dz_istore (ls' := [(0, .ref (b + 130)), (1, .int (dz_i (r : Int))), (2, .int (dz_i (B + p))), (3, .int (dz_i (B + bg))), (4, .int (dz_i (B + e))), (5, .int (dz_i (sp_cn (S r)))), (6, .int (dz_i 0)), (7, .int (dz_i 0))]) x.1 d_Model_cellsStand_44 hN (by decide) rfl ?_
    have hN9 : sp_mcs h S bg e p r = false := by
      cases hmt : sp_mcs h S bg e p r with
      | false => rfl
      | true =>
        exfalso
        first
          | (rw [he] at hmt; have h9 := sp_mcs_in CI.1 hr1.2 hf (by omega) hmt; omega)
          | (unfold sp_mcs at hmt; rw [sp_dec_B, sp_dec_B2] at hc33; exact hc33 (Bool.and_eq_true_iff.mp hmt).2)
    refine dz_iload x.1 7 d_Model_cellsStand_46 rfl ?_
    refine dz_iload x.1 5 d_Model_cellsStand_48 rfl ?_
    refine dz_icmp_ge (tgt := 94) x.1 d_Model_cellsStand_50 (by decide) (by omega) (by omega) (fun hc50 => by exfalso; omega) (fun hc50 => ?_)
    refine dz_iload x.1 6 d_Model_cellsStand_53 rfl ?_
    refine dz_if_eq (tgt := 94) x.1 d_Model_cellsStand_55 (by decide) (by omega) (fun hc55 => ?_) (fun hc55 => by exfalso; omega)
    refine dz_iload x.1 6 d_Model_cellsStand_94 rfl ?_
    exact ly_iret x d_Model_cellsStand_96 (dz_nbo (by omega)) ⟨by rw [sp_bf hN9], rfl⟩
  · refine dz_aload_n x.1 0 d_Model_cellsStand_17 rfl rfl ?_
    refine dz_aload_n x.1 0 d_Model_cellsStand_18 rfl rfl ?_
    refine dz_getr x.1 (ly_Model b) fl_Model_13 (lr_Model_6 b) d_Model_cellsStand_19 ?_
    refine dz_iload_n x.1 1 d_Model_cellsStand_22 rfl rfl ?_
    refine dz_iald (w := (sp_k (S r))) x.1 (ly_MKinds b) (by decide) (by omega) d_Model_cellsStand_23 hr1.1.1 ?_
    refine dz_iload_n x.1 2 d_Model_cellsStand_24 rfl rfl ?_
    refine dz_iload x.1 5 d_Model_cellsStand_25 rfl ?_
    refine dz_iload_n x.1 3 d_Model_cellsStand_27 rfl rfl ?_
    refine dz_iload x.1 4 d_Model_cellsStand_28 rfl ?_
    refine ly_callV (rest := []) x cl_Model_103 (c_Model_applies l D Dt b sz I (sp_k (S r)) (B + p) (sp_cn (S r)) (B + bg) (B + e) (by omega) (by omega) (by omega) (by omega) (by omega) (by omega)) (by decide) (ly_Model b) rfl rfl rfl rfl (Nat.le_of_ble_eq_true rfl) d_Model_cellsStand_30 (fun v I' hp30 => ?_)
    obtain ⟨rfl, hp30I⟩ := hp30
    have hp30I := hp30I.symm
    subst hp30I
    show ly_V κ b sz I 33 [(0, .ref (b + 130)), (1, .int (dz_i (r : Int))), (2, .int (dz_i (B + p))), (3, .int (dz_i (B + bg))), (4, .int (dz_i (B + e))), (5, .int (dz_i (sp_cn (S r))))] [.int (dz_i (if sp_app (sp_k (S r)) (decide (B + p = B + bg)) (decide (B + p + sp_cn (S r) = B + e)) = true then 1 else 0))]
    refine dz_if_eq (tgt := 40) x.1 d_Model_cellsStand_33 (by decide) (dz_br _) (fun hc33 => ?_) (fun hc33 => ?_)
    · have hc33 : ¬ (sp_app (sp_k (S r)) (decide (B + p = B + bg)) (decide (B + p + sp_cn (S r) = B + e)) = true) := dz_bf hc33
      refine dz_iconst x.1 d_Model_cellsStand_40 ?_
      refine dz_istore (ls' := [(0, .ref (b + 130)), (1, .int (dz_i (r : Int))), (2, .int (dz_i (B + p))), (3, .int (dz_i (B + bg))), (4, .int (dz_i (B + e))), (5, .int (dz_i (sp_cn (S r)))), (6, .int (dz_i 0))]) x.1 d_Model_cellsStand_41 hN (by decide) rfl ?_
      refine dz_iconst x.1 d_Model_cellsStand_43 ?_
      refine dz_istore (ls' := [(0, .ref (b + 130)), (1, .int (dz_i (r : Int))), (2, .int (dz_i (B + p))), (3, .int (dz_i (B + bg))), (4, .int (dz_i (B + e))), (5, .int (dz_i (sp_cn (S r)))), (6, .int (dz_i 0)), (7, .int (dz_i 0))]) x.1 d_Model_cellsStand_44 hN (by decide) rfl ?_
      have hN9 : sp_mcs h S bg e p r = false := by
        cases hmt : sp_mcs h S bg e p r with
        | false => rfl
        | true =>
          exfalso
          first
            | (rw [he] at hmt; have h9 := sp_mcs_in CI.1 hr1.2 hf (by omega) hmt; omega)
            | (unfold sp_mcs at hmt; rw [sp_dec_B, sp_dec_B2] at hc33; exact hc33 (Bool.and_eq_true_iff.mp hmt).2)
      refine dz_iload x.1 7 d_Model_cellsStand_46 rfl ?_
      refine dz_iload x.1 5 d_Model_cellsStand_48 rfl ?_
      refine dz_icmp_ge (tgt := 94) x.1 d_Model_cellsStand_50 (by decide) (by omega) (by omega) (fun hc50 => by exfalso; omega) (fun hc50 => ?_)
      refine dz_iload x.1 6 d_Model_cellsStand_53 rfl ?_
      refine dz_if_eq (tgt := 94) x.1 d_Model_cellsStand_55 (by decide) (by omega) (fun hc55 => ?_) (fun hc55 => by exfalso; omega)
      refine dz_iload x.1 6 d_Model_cellsStand_94 rfl ?_
      exact ly_iret x d_Model_cellsStand_96 (dz_nbo (by omega)) ⟨by rw [sp_bf hN9], rfl⟩
    · have hc33 : sp_app (sp_k (S r)) (decide (B + p = B + bg)) (decide (B + p + sp_cn (S r) = B + e)) = true := dz_bt hc33
      refine dz_iconst x.1 d_Model_cellsStand_36 ?_
      refine dz_goto (tgt := 41) x.1 d_Model_cellsStand_37 (by decide) ?_
      refine dz_istore (ls' := [(0, .ref (b + 130)), (1, .int (dz_i (r : Int))), (2, .int (dz_i (B + p))), (3, .int (dz_i (B + bg))), (4, .int (dz_i (B + e))), (5, .int (dz_i (sp_cn (S r)))), (6, .int (dz_i 1))]) x.1 d_Model_cellsStand_41 hN (by decide) rfl ?_
      refine dz_iconst x.1 d_Model_cellsStand_43 ?_
      refine dz_istore (ls' := [(0, .ref (b + 130)), (1, .int (dz_i (r : Int))), (2, .int (dz_i (B + p))), (3, .int (dz_i (B + bg))), (4, .int (dz_i (B + e))), (5, .int (dz_i (sp_cn (S r)))), (6, .int (dz_i 1)), (7, .int (dz_i 0))]) x.1 d_Model_cellsStand_44 hN (by decide) rfl ?_
      rw [sp_dec_B, sp_dec_B2] at hc33
      exact loop (sp_cn (S r)).toNat 0 (by omega) (by omega) hc33 (fun j j1 j2 => by omega)
set_option maxRecDepth 100000 in
set_option maxHeartbeats 4000000 in
theorem c_Model_readOne (l : Launch) (D : va_G) (Dt : Nat → ClassId) (b sz : Nat) (I : dz_Hp) (c : Nat) (S : Nat → sp_Ru) (RI : sp_MR b I c S) (B m : Int) (h : Int → Int) (CI : sp_MC b I B m h) (H : List Int) (nx rs : Bool) (HI : sp_mh b I H nx rs) (f e p bg : Int) (hf : 0 ≤ f ∧ f ≤ m) (he : e = sp_ep h f) (hp : f ≤ p ∧ p < e) (hbg : f ≤ bg ∧ bg ≤ e) (hlen : (H ++ (sp_ro h c S bg e nx rs p).1).length ≤ 1200) : ly_M l D Dt b sz y_Model_readOne b_Model_readOne 7 (some .int) 4 [.ref (b + 130), .int (dz_i (B + p)), .int (dz_i (B + bg)), .int (dz_i (B + e))] I (fun v I' => v = some (.int (dz_i (B + p + (sp_ro h c S bg e nx rs p).2.1))) ∧ sp_fh b I I' ∧ sp_mh b I' (H ++ (sp_ro h c S bg e nx rs p).1) (sp_ro h c S bg e nx rs p).2.2 rs) := by
  refine ly_enter R_Model (by decide) rfl (Nat.le_of_ble_eq_true rfl) (ly_cat _ 0 rfl) (fun κ x => ?_)
  have hN := ly_N x
  have hc24 := RI.2.1
  have hB := CI.2.1
  have hm := CI.1.1
  have hin9 := sp_hh_in CI.1 hf (p := p) (by omega)
  rw [← he] at hin9
  have hhp := CI.1.2.2 p
  have hcr := sp_chr_rng (h p)
  have FI : sp_fh b I I := sp_fh.rf
  have MI := HI
  have k110 : ∀ (bv : Int), ((bv = -1 ∧ sp_best (sp_mcs h S bg e p) (sp_btc S) c = none) ∨ (∃ j : Nat, j < c ∧ bv = (j : Int) ∧ sp_best (sp_mcs h S bg e p) (sp_btc S) c = some j)) → ly_V κ b sz I 110 [(0, .ref (b + 130)), (1, .int (dz_i (B + p))), (2, .int (dz_i (B + bg))), (3, .int (dz_i (B + e))), (4, .int (dz_i bv)), (5, .int (dz_i (c : Int)))] [] := by
    intro bv hbv
    rcases hbv with ⟨rfl, hb⟩ | ⟨j, hj, rfl, hb⟩
    · have hst : (sp_ro h c S bg e nx rs p) = ([sp_pc nx rs (sp_chr (h p))], 1, sp_nx nx (sp_chr (h p))) := by unfold sp_ro; rw [hb]
      refine dz_iload x.1 4 d_Model_readOne_110 rfl ?_
      refine dz_if_ge (tgt := 133) x.1 d_Model_readOne_112 (by decide) (by omega) (fun hc112 => by exfalso; omega) (fun hc112 => ?_)
      refine dz_aload_n x.1 0 d_Model_readOne_115 rfl rfl ?_
      refine dz_aload_n x.1 0 d_Model_readOne_116 rfl rfl ?_
      refine dz_aload_n x.1 0 d_Model_readOne_117 rfl rfl ?_
      refine dz_getr x.1 (ly_Model b) fl_Model_39 (lr_Model_15 b) d_Model_readOne_118 ?_
      refine dz_iload_n x.1 1 d_Model_readOne_121 rfl rfl ?_
      refine dz_iald (w := (h p)) x.1 (ly_MCells b) (by decide) (by omega) d_Model_readOne_122 (CI.2.2 p (by omega) (by omega)) ?_
      refine ly_callV (rest := [.ref (b + 130)]) x cl_Model_149 (c_Model_characterOf l D Dt b sz I (h p) (by omega)) (by decide) (ly_Model b) rfl rfl rfl rfl (Nat.le_of_ble_eq_true rfl) d_Model_readOne_123 (fun v I' hp123 => ?_)
      obtain ⟨rfl, hp123I⟩ := hp123
      have hp123I := hp123I.symm
      subst hp123I
      show ly_V κ b sz I 126 [(0, .ref (b + 130)), (1, .int (dz_i (B + p))), (2, .int (dz_i (B + bg))), (3, .int (dz_i (B + e))), (4, .int (dz_i (-1))), (5, .int (dz_i (c : Int)))] [.int (dz_i (sp_chr (h p))), .ref (b + 130)]
      refine ly_callV (rest := []) x cl_Model_153 (c_Model_hear l D Dt b sz I (H) nx rs MI (by rw [hst] at hlen; simp only [List.length_append, List.length_cons, List.length_nil] at hlen; omega) (sp_chr (h p)) (by omega)) (by decide) (ly_Model b) rfl rfl rfl rfl (Nat.le_of_ble_eq_true rfl) d_Model_readOne_126 (fun v J126 hp126 => ?_)
      obtain ⟨rfl, hfJ126, MJ126⟩ := hp126
      have FJ126 : sp_fh b I J126 := FI.tr hfJ126
      show ly_V κ b sz J126 129 [(0, .ref (b + 130)), (1, .int (dz_i (B + p))), (2, .int (dz_i (B + bg))), (3, .int (dz_i (B + e))), (4, .int (dz_i (-1))), (5, .int (dz_i (c : Int)))] []
      refine dz_iload_n x.1 1 d_Model_readOne_129 rfl rfl ?_
      refine dz_iconst x.1 d_Model_readOne_130 ?_
      refine dz_iadd (z := B + p + 1) x.1 d_Model_readOne_131 (by omega) ?_
      exact ly_iret x d_Model_readOne_132 rfl ⟨by rw [hst], FJ126, by rw [hst]; exact MJ126⟩
    · have hst : (sp_ro h c S bg e nx rs p) = ((sp_ll (S j) nx rs (sp_ln (S j)).toNat).1, sp_cn (S j), (sp_ll (S j) nx rs (sp_ln (S j)).toNat).2) := by unfold sp_ro; rw [hb]
      have hrj := (RI.2.2 j hj).2
      have hwj := hrj.2.2.1
      have hwl9 := hrj.2.1
      have hT2 := hlen
      rw [hst, List.length_append, sp_ll_len] at hT2
      have loopc : ∀ (k3 : Nat) (q : Nat) (J : dz_Hp), ((q : Int) + (k3 : Int) = sp_ln (S j)) → (sp_fh b I J) → (sp_mh b J (H ++ (sp_ll (S j) nx rs q).1) (sp_ll (S j) nx rs q).2 rs) → ly_V κ b sz J 136 [(0, .ref (b + 130)), (1, .int (dz_i (B + p))), (2, .int (dz_i (B + bg))), (3, .int (dz_i (B + e))), (4, .int (dz_i (j : Int))), (5, .int (dz_i (q : Int)))] [] := by
        intro k3
        induction k3 with
        | zero =>
          intro q J hq FJ MJ
          refine dz_iload x.1 5 d_Model_readOne_136 rfl ?_
          refine dz_aload_n x.1 0 d_Model_readOne_138 rfl rfl ?_
          refine dz_getr x.1 (ly_Model b) fl_Model_17 (lr_Model_7 b) d_Model_readOne_139 ?_
          refine dz_iload x.1 4 d_Model_readOne_142 rfl ?_
          refine dz_iald (w := (sp_ln (S j))) x.1 (ly_MLetterCount b) (by decide) (by omega) d_Model_readOne_144 ((RI.fh FJ).2.2 j hj).1.2.1 ?_
          refine dz_icmp_ge (tgt := 171) x.1 d_Model_readOne_145 (by decide) (by omega) (by omega) (fun hc145 => ?_) (fun hc145 => by exfalso; omega)
          refine dz_iload_n x.1 1 d_Model_readOne_171 rfl rfl ?_
          refine dz_aload_n x.1 0 d_Model_readOne_172 rfl rfl ?_
          refine dz_getr x.1 (ly_Model b) fl_Model_23 (lr_Model_9 b) d_Model_readOne_173 ?_
          refine dz_iload x.1 4 d_Model_readOne_176 rfl ?_
          refine dz_iald (w := (sp_cn (S j))) x.1 (ly_MCellCount b) (by decide) (by omega) d_Model_readOne_178 ((RI.fh FJ).2.2 j hj).1.2.2.1 ?_
          refine dz_iadd (z := B + p + (sp_cn (S j))) x.1 d_Model_readOne_179 (by omega) ?_
          exact ly_iret x d_Model_readOne_180 rfl ⟨by rw [hst], FJ, by rw [hst]; have e9 : (sp_ln (S j)).toNat = q := (by omega); rw [e9]; exact MJ⟩
        | succ k3 ihc =>
          intro q J hq FJ MJ
          refine dz_iload x.1 5 d_Model_readOne_136 rfl ?_
          refine dz_aload_n x.1 0 d_Model_readOne_138 rfl rfl ?_
          refine dz_getr x.1 (ly_Model b) fl_Model_17 (lr_Model_7 b) d_Model_readOne_139 ?_
          refine dz_iload x.1 4 d_Model_readOne_142 rfl ?_
          refine dz_iald (w := (sp_ln (S j))) x.1 (ly_MLetterCount b) (by decide) (by omega) d_Model_readOne_144 ((RI.fh FJ).2.2 j hj).1.2.1 ?_
          refine dz_icmp_ge (tgt := 171) x.1 d_Model_readOne_145 (by decide) (by omega) (by omega) (fun hc145 => by exfalso; omega) (fun hc145 => ?_)
          have hltq := hrj.2.2.2.1 q (by omega) (by omega)
          refine dz_aload_n x.1 0 d_Model_readOne_148 rfl rfl ?_
          refine dz_aload_n x.1 0 d_Model_readOne_149 rfl rfl ?_
          refine dz_getr x.1 (ly_Model b) fl_Model_20 (lr_Model_8 b) d_Model_readOne_150 ?_
          refine dz_bipush x.1 d_Model_readOne_153 (by decide) ?_
          refine dz_iload x.1 4 d_Model_readOne_155 rfl ?_
          refine dz_imul (z := 6 * (j : Int)) x.1 d_Model_readOne_157 (by omega) ?_
          refine dz_iload x.1 5 d_Model_readOne_158 rfl ?_
          refine dz_iadd (z := 6 * (j : Int) + (q : Int)) x.1 d_Model_readOne_160 (by omega) ?_
          refine dz_cald (w := (sp_lt (S j) (q : Int))) x.1 (ly_MLetters b) (by decide) (by omega) d_Model_readOne_161 (((RI.fh FJ).2.2 j hj).1.2.2.2.1 q (by omega) (by omega)) ?_
          refine ly_callV (rest := []) x cl_Model_153 (c_Model_hear l D Dt b sz J (H ++ (sp_ll (S j) nx rs q).1) (sp_ll (S j) nx rs q).2 rs MJ (by rw [List.length_append, sp_ll_len]; omega) (sp_lt (S j) (q : Int)) (by omega)) (by decide) (ly_Model b) rfl rfl rfl rfl (Nat.le_of_ble_eq_true rfl) d_Model_readOne_162 (fun v J162 hp162 => ?_)
          obtain ⟨rfl, hfJ162, MJ162⟩ := hp162
          have FJ162 : sp_fh b I J162 := FJ.tr hfJ162
          show ly_V κ b sz J162 165 [(0, .ref (b + 130)), (1, .int (dz_i (B + p))), (2, .int (dz_i (B + bg))), (3, .int (dz_i (B + e))), (4, .int (dz_i (j : Int))), (5, .int (dz_i (q : Int)))] []
          refine dz_iinc (z := (q : Int) + 1) (ls' := [(0, .ref (b + 130)), (1, .int (dz_i (B + p))), (2, .int (dz_i (B + bg))), (3, .int (dz_i (B + e))), (4, .int (dz_i (j : Int))), (5, .int (dz_i ((q : Int) + 1)))]) x.1 5 d_Model_readOne_165 rfl hN (by decide) (by omega) rfl ?_
          refine dz_goto (tgt := 136) x.1 d_Model_readOne_168 (by decide) ?_
          have h9 := ihc (q + 1) J162 (by omega) FJ162 (by simp only [sp_ll]; have h9 := MJ162; rw [List.append_assoc] at h9; exact h9)
          rw [show ((q + 1 : Nat) : Int) = (q : Int) + 1 by omega] at h9
          exact h9
      refine dz_iload x.1 4 d_Model_readOne_110 rfl ?_
      refine dz_if_ge (tgt := 133) x.1 d_Model_readOne_112 (by decide) (by omega) (fun hc112 => ?_) (fun hc112 => by exfalso; omega)
      refine dz_iconst x.1 d_Model_readOne_133 ?_
      refine dz_istore (ls' := [(0, .ref (b + 130)), (1, .int (dz_i (B + p))), (2, .int (dz_i (B + bg))), (3, .int (dz_i (B + e))), (4, .int (dz_i (j : Int))), (5, .int (dz_i 0))]) x.1 d_Model_readOne_134 hN (by decide) rfl ?_
      exact loopc (sp_ln (S j)).toNat 0 I (by omega) FI (by simpa [sp_ll] using MI)
  have loopb : ∀ (k2 : Nat) (r : Nat) (bv : Int), (r + k2 = c) → ((bv = -1 ∧ sp_best (sp_mcs h S bg e p) (sp_btc S) r = none) ∨ (∃ j : Nat, j < c ∧ bv = (j : Int) ∧ sp_best (sp_mcs h S bg e p) (sp_btc S) r = some j)) → ly_V κ b sz I 6 [(0, .ref (b + 130)), (1, .int (dz_i (B + p))), (2, .int (dz_i (B + bg))), (3, .int (dz_i (B + e))), (4, .int (dz_i bv)), (5, .int (dz_i (r : Int)))] [] := by
    intro k2
    induction k2 with
    | zero =>
      intro r bv hr hv
      refine dz_iload x.1 5 d_Model_readOne_6 rfl ?_
      refine dz_aload_n x.1 0 d_Model_readOne_8 rfl rfl ?_
      refine dz_geti (z := (c : Int)) x.1 (ly_Model b) fl_Model_83 d_Model_readOne_9 RI.1 ?_
      refine dz_icmp_ge (tgt := 110) x.1 d_Model_readOne_12 (by decide) (by omega) (by omega) (fun hc12 => ?_) (fun hc12 => by exfalso; omega)
      have er : r = c := by omega
      subst er
      exact k110 bv hv
    | succ k2 ihb =>
      intro r bv hr hv
      have hr1 := RI.2.2 r (by omega)
      have hr2 := hr1.2.1
      have hr3 := hr1.2.2.2.1
      rcases hv with ⟨rfl, hb⟩ | ⟨j, hj, rfl, hb⟩
      · have hbb := hb
        refine dz_iload x.1 5 d_Model_readOne_6 rfl ?_
        refine dz_aload_n x.1 0 d_Model_readOne_8 rfl rfl ?_
        refine dz_geti (z := (c : Int)) x.1 (ly_Model b) fl_Model_83 d_Model_readOne_9 RI.1 ?_
        refine dz_icmp_ge (tgt := 110) x.1 d_Model_readOne_12 (by decide) (by omega) (by omega) (fun hc12 => by exfalso; omega) (fun hc12 => ?_)
        refine dz_iload x.1 4 d_Model_readOne_15 rfl ?_
        refine dz_if_lt (tgt := 71) x.1 d_Model_readOne_17 (by decide) (by omega) (fun hc17 => ?_) (fun hc17 => by exfalso; omega)
        refine dz_iconst x.1 d_Model_readOne_71 ?_
        refine dz_goto (tgt := 76) x.1 d_Model_readOne_72 (by decide) ?_
        refine dz_istore (ls' := [(0, .ref (b + 130)), (1, .int (dz_i (B + p))), (2, .int (dz_i (B + bg))), (3, .int (dz_i (B + e))), (4, .int (dz_i (-1))), (5, .int (dz_i (r : Int))), (6, .int (dz_i 1))]) x.1 d_Model_readOne_76 hN (by decide) rfl ?_
        refine dz_iload x.1 6 d_Model_readOne_78 rfl ?_
        refine dz_if_eq (tgt := 100) x.1 d_Model_readOne_80 (by decide) (by omega) (fun hc80 => by exfalso; omega) (fun hc80 => ?_)
        refine dz_aload_n x.1 0 d_Model_readOne_83 rfl rfl ?_
        refine dz_iload x.1 5 d_Model_readOne_84 rfl ?_
        refine dz_iload_n x.1 1 d_Model_readOne_86 rfl rfl ?_
        refine dz_iload_n x.1 2 d_Model_readOne_87 rfl rfl ?_
        refine dz_iload_n x.1 3 d_Model_readOne_88 rfl rfl ?_
        refine ly_callV (rest := []) x cl_Model_145 (c_Model_cellsStand l D Dt b sz I c S RI B m h CI r (by omega) f e p bg hf he hp hbg) (by decide) (ly_Model b) rfl rfl rfl rfl (Nat.le_of_ble_eq_true rfl) d_Model_readOne_89 (fun v I' hp89 => ?_)
        obtain ⟨rfl, hp89I⟩ := hp89
        have hp89I := hp89I.symm
        subst hp89I
        show ly_V κ b sz I 92 [(0, .ref (b + 130)), (1, .int (dz_i (B + p))), (2, .int (dz_i (B + bg))), (3, .int (dz_i (B + e))), (4, .int (dz_i (-1))), (5, .int (dz_i (r : Int))), (6, .int (dz_i 1))] [.int (dz_i (if sp_mcs h S bg e p r = true then 1 else 0))]
        refine dz_if_eq (tgt := 100) x.1 d_Model_readOne_92 (by decide) (dz_br _) (fun hc92 => ?_) (fun hc92 => ?_)
        · have hc92 : ¬ (sp_mcs h S bg e p r = true) := dz_bf hc92
          refine dz_iload x.1 4 d_Model_readOne_100 rfl ?_
          refine dz_istore (ls' := [(0, .ref (b + 130)), (1, .int (dz_i (B + p))), (2, .int (dz_i (B + bg))), (3, .int (dz_i (B + e))), (4, .int (dz_i (-1))), (5, .int (dz_i (r : Int))), (6, .int (dz_i 1))]) x.1 d_Model_readOne_102 hN (by decide) rfl ?_
          refine dz_iinc (z := (r : Int) + 1) (ls' := [(0, .ref (b + 130)), (1, .int (dz_i (B + p))), (2, .int (dz_i (B + bg))), (3, .int (dz_i (B + e))), (4, .int (dz_i (-1))), (5, .int (dz_i ((r : Int) + 1))), (6, .int (dz_i 1))]) x.1 5 d_Model_readOne_104 rfl hN (by decide) (by omega) rfl ?_
          refine dz_goto (tgt := 6) x.1 d_Model_readOne_107 (by decide) ?_
          refine dz_take 6 (ls' := [(0, .ref (b + 130)), (1, .int (dz_i (B + p))), (2, .int (dz_i (B + bg))), (3, .int (dz_i (B + e))), (4, .int (dz_i (-1))), (5, .int (dz_i ((r : Int) + 1)))]) rfl ?_
          have h9 := ihb (r + 1) _ (by omega) (Or.inl ⟨rfl, (sp_best_n hc92).trans hb⟩)
          rw [show ((r + 1 : Nat) : Int) = (r : Int) + 1 by omega] at h9
          exact h9
        · have hc92 : sp_mcs h S bg e p r = true := dz_bt hc92
          refine dz_iload x.1 5 d_Model_readOne_95 rfl ?_
          refine dz_goto (tgt := 102) x.1 d_Model_readOne_97 (by decide) ?_
          refine dz_istore (ls' := [(0, .ref (b + 130)), (1, .int (dz_i (B + p))), (2, .int (dz_i (B + bg))), (3, .int (dz_i (B + e))), (4, .int (dz_i (r : Int))), (5, .int (dz_i (r : Int))), (6, .int (dz_i 1))]) x.1 d_Model_readOne_102 hN (by decide) rfl ?_
          refine dz_iinc (z := (r : Int) + 1) (ls' := [(0, .ref (b + 130)), (1, .int (dz_i (B + p))), (2, .int (dz_i (B + bg))), (3, .int (dz_i (B + e))), (4, .int (dz_i (r : Int))), (5, .int (dz_i ((r : Int) + 1))), (6, .int (dz_i 1))]) x.1 5 d_Model_readOne_104 rfl hN (by decide) (by omega) rfl ?_
          refine dz_goto (tgt := 6) x.1 d_Model_readOne_107 (by decide) ?_
          refine dz_take 6 (ls' := [(0, .ref (b + 130)), (1, .int (dz_i (B + p))), (2, .int (dz_i (B + bg))), (3, .int (dz_i (B + e))), (4, .int (dz_i (r : Int))), (5, .int (dz_i ((r : Int) + 1)))]) rfl ?_
          have h9 := ihb (r + 1) _ (by omega) (Or.inr ⟨r, by omega, rfl, sp_best_0 hb hc92⟩)
          rw [show ((r + 1 : Nat) : Int) = (r : Int) + 1 by omega] at h9
          exact h9
      · have hj1 := RI.2.2 j hj
        have hj2 := hj1.2.1
        have hj3 := hj1.2.2.2.1
        refine dz_iload x.1 5 d_Model_readOne_6 rfl ?_
        refine dz_aload_n x.1 0 d_Model_readOne_8 rfl rfl ?_
        refine dz_geti (z := (c : Int)) x.1 (ly_Model b) fl_Model_83 d_Model_readOne_9 RI.1 ?_
        refine dz_icmp_ge (tgt := 110) x.1 d_Model_readOne_12 (by decide) (by omega) (by omega) (fun hc12 => by exfalso; omega) (fun hc12 => ?_)
        refine dz_iload x.1 4 d_Model_readOne_15 rfl ?_
        refine dz_if_lt (tgt := 71) x.1 d_Model_readOne_17 (by decide) (by omega) (fun hc17 => by exfalso; omega) (fun hc17 => ?_)
        refine dz_aload_n x.1 0 d_Model_readOne_20 rfl rfl ?_
        refine dz_getr x.1 (ly_Model b) fl_Model_23 (lr_Model_9 b) d_Model_readOne_21 ?_
        refine dz_iload x.1 5 d_Model_readOne_24 rfl ?_
        refine dz_iald (w := (sp_cn (S r))) x.1 (ly_MCellCount b) (by decide) (by omega) d_Model_readOne_26 hr1.1.2.2.1 ?_
        refine dz_aload_n x.1 0 d_Model_readOne_27 rfl rfl ?_
        refine dz_getr x.1 (ly_Model b) fl_Model_23 (lr_Model_9 b) d_Model_readOne_28 ?_
        refine dz_iload x.1 4 d_Model_readOne_31 rfl ?_
        refine dz_iald (w := (sp_cn (S j))) x.1 (ly_MCellCount b) (by decide) (by omega) d_Model_readOne_33 hj1.1.2.2.1 ?_
        refine dz_icmp_gt (tgt := 71) x.1 d_Model_readOne_34 (by decide) (by omega) (by omega) (fun hc34 => ?_) (fun hc34 => ?_)
        · refine dz_iconst x.1 d_Model_readOne_71 ?_
          refine dz_goto (tgt := 76) x.1 d_Model_readOne_72 (by decide) ?_
          refine dz_istore (ls' := [(0, .ref (b + 130)), (1, .int (dz_i (B + p))), (2, .int (dz_i (B + bg))), (3, .int (dz_i (B + e))), (4, .int (dz_i (j : Int))), (5, .int (dz_i (r : Int))), (6, .int (dz_i 1))]) x.1 d_Model_readOne_76 hN (by decide) rfl ?_
          refine dz_iload x.1 6 d_Model_readOne_78 rfl ?_
          refine dz_if_eq (tgt := 100) x.1 d_Model_readOne_80 (by decide) (by omega) (fun hc80 => by exfalso; omega) (fun hc80 => ?_)
          refine dz_aload_n x.1 0 d_Model_readOne_83 rfl rfl ?_
          refine dz_iload x.1 5 d_Model_readOne_84 rfl ?_
          refine dz_iload_n x.1 1 d_Model_readOne_86 rfl rfl ?_
          refine dz_iload_n x.1 2 d_Model_readOne_87 rfl rfl ?_
          refine dz_iload_n x.1 3 d_Model_readOne_88 rfl rfl ?_
          refine ly_callV (rest := []) x cl_Model_145 (c_Model_cellsStand l D Dt b sz I c S RI B m h CI r (by omega) f e p bg hf he hp hbg) (by decide) (ly_Model b) rfl rfl rfl rfl (Nat.le_of_ble_eq_true rfl) d_Model_readOne_89 (fun v I' hp89 => ?_)
          obtain ⟨rfl, hp89I⟩ := hp89
          have hp89I := hp89I.symm
          subst hp89I
          show ly_V κ b sz I 92 [(0, .ref (b + 130)), (1, .int (dz_i (B + p))), (2, .int (dz_i (B + bg))), (3, .int (dz_i (B + e))), (4, .int (dz_i (j : Int))), (5, .int (dz_i (r : Int))), (6, .int (dz_i 1))] [.int (dz_i (if sp_mcs h S bg e p r = true then 1 else 0))]
          refine dz_if_eq (tgt := 100) x.1 d_Model_readOne_92 (by decide) (dz_br _) (fun hc92 => ?_) (fun hc92 => ?_)
          · have hc92 : ¬ (sp_mcs h S bg e p r = true) := dz_bf hc92
            refine dz_iload x.1 4 d_Model_readOne_100 rfl ?_
            refine dz_istore (ls' := [(0, .ref (b + 130)), (1, .int (dz_i (B + p))), (2, .int (dz_i (B + bg))), (3, .int (dz_i (B + e))), (4, .int (dz_i (j : Int))), (5, .int (dz_i (r : Int))), (6, .int (dz_i 1))]) x.1 d_Model_readOne_102 hN (by decide) rfl ?_
            refine dz_iinc (z := (r : Int) + 1) (ls' := [(0, .ref (b + 130)), (1, .int (dz_i (B + p))), (2, .int (dz_i (B + bg))), (3, .int (dz_i (B + e))), (4, .int (dz_i (j : Int))), (5, .int (dz_i ((r : Int) + 1))), (6, .int (dz_i 1))]) x.1 5 d_Model_readOne_104 rfl hN (by decide) (by omega) rfl ?_
            refine dz_goto (tgt := 6) x.1 d_Model_readOne_107 (by decide) ?_
            refine dz_take 6 (ls' := [(0, .ref (b + 130)), (1, .int (dz_i (B + p))), (2, .int (dz_i (B + bg))), (3, .int (dz_i (B + e))), (4, .int (dz_i (j : Int))), (5, .int (dz_i ((r : Int) + 1)))]) rfl ?_
            have h9 := ihb (r + 1) _ (by omega) (Or.inr ⟨j, hj, rfl, by first | exact (sp_best_n hc92).trans hb | exact sp_best_f hb (fun z => by have z9 := of_decide_eq_true z; omega)⟩)
            rw [show ((r + 1 : Nat) : Int) = (r : Int) + 1 by omega] at h9
            exact h9
          · have hc92 : sp_mcs h S bg e p r = true := dz_bt hc92
            refine dz_iload x.1 5 d_Model_readOne_95 rfl ?_
            refine dz_goto (tgt := 102) x.1 d_Model_readOne_97 (by decide) ?_
            refine dz_istore (ls' := [(0, .ref (b + 130)), (1, .int (dz_i (B + p))), (2, .int (dz_i (B + bg))), (3, .int (dz_i (B + e))), (4, .int (dz_i (r : Int))), (5, .int (dz_i (r : Int))), (6, .int (dz_i 1))]) x.1 d_Model_readOne_102 hN (by decide) rfl ?_
            refine dz_iinc (z := (r : Int) + 1) (ls' := [(0, .ref (b + 130)), (1, .int (dz_i (B + p))), (2, .int (dz_i (B + bg))), (3, .int (dz_i (B + e))), (4, .int (dz_i (r : Int))), (5, .int (dz_i ((r : Int) + 1))), (6, .int (dz_i 1))]) x.1 5 d_Model_readOne_104 rfl hN (by decide) (by omega) rfl ?_
            refine dz_goto (tgt := 6) x.1 d_Model_readOne_107 (by decide) ?_
            refine dz_take 6 (ls' := [(0, .ref (b + 130)), (1, .int (dz_i (B + p))), (2, .int (dz_i (B + bg))), (3, .int (dz_i (B + e))), (4, .int (dz_i (r : Int))), (5, .int (dz_i ((r : Int) + 1)))]) rfl ?_
            have h9 := ihb (r + 1) _ (by omega) (Or.inr ⟨r, by omega, rfl, sp_best_t hb hc92 (decide_eq_true (by omega))⟩)
            rw [show ((r + 1 : Nat) : Int) = (r : Int) + 1 by omega] at h9
            exact h9
        · refine dz_aload_n x.1 0 d_Model_readOne_37 rfl rfl ?_
          refine dz_getr x.1 (ly_Model b) fl_Model_23 (lr_Model_9 b) d_Model_readOne_38 ?_
          refine dz_iload x.1 5 d_Model_readOne_41 rfl ?_
          refine dz_iald (w := (sp_cn (S r))) x.1 (ly_MCellCount b) (by decide) (by omega) d_Model_readOne_43 hr1.1.2.2.1 ?_
          refine dz_aload_n x.1 0 d_Model_readOne_44 rfl rfl ?_
          refine dz_getr x.1 (ly_Model b) fl_Model_23 (lr_Model_9 b) d_Model_readOne_45 ?_
          refine dz_iload x.1 4 d_Model_readOne_48 rfl ?_
          refine dz_iald (w := (sp_cn (S j))) x.1 (ly_MCellCount b) (by decide) (by omega) d_Model_readOne_50 hj1.1.2.2.1 ?_
          refine dz_icmp_ne (tgt := 75) x.1 d_Model_readOne_51 (by decide) (by omega) (by omega) (fun hc51 => ?_) (fun hc51 => ?_)
          · refine dz_iconst x.1 d_Model_readOne_75 ?_
            refine dz_istore (ls' := [(0, .ref (b + 130)), (1, .int (dz_i (B + p))), (2, .int (dz_i (B + bg))), (3, .int (dz_i (B + e))), (4, .int (dz_i (j : Int))), (5, .int (dz_i (r : Int))), (6, .int (dz_i 0))]) x.1 d_Model_readOne_76 hN (by decide) rfl ?_
            refine dz_iload x.1 6 d_Model_readOne_78 rfl ?_
            refine dz_if_eq (tgt := 100) x.1 d_Model_readOne_80 (by decide) (by omega) (fun hc80 => ?_) (fun hc80 => by exfalso; omega)
            refine dz_iload x.1 4 d_Model_readOne_100 rfl ?_
            refine dz_istore (ls' := [(0, .ref (b + 130)), (1, .int (dz_i (B + p))), (2, .int (dz_i (B + bg))), (3, .int (dz_i (B + e))), (4, .int (dz_i (j : Int))), (5, .int (dz_i (r : Int))), (6, .int (dz_i 0))]) x.1 d_Model_readOne_102 hN (by decide) rfl ?_
            refine dz_iinc (z := (r : Int) + 1) (ls' := [(0, .ref (b + 130)), (1, .int (dz_i (B + p))), (2, .int (dz_i (B + bg))), (3, .int (dz_i (B + e))), (4, .int (dz_i (j : Int))), (5, .int (dz_i ((r : Int) + 1))), (6, .int (dz_i 0))]) x.1 5 d_Model_readOne_104 rfl hN (by decide) (by omega) rfl ?_
            refine dz_goto (tgt := 6) x.1 d_Model_readOne_107 (by decide) ?_
            refine dz_take 6 (ls' := [(0, .ref (b + 130)), (1, .int (dz_i (B + p))), (2, .int (dz_i (B + bg))), (3, .int (dz_i (B + e))), (4, .int (dz_i (j : Int))), (5, .int (dz_i ((r : Int) + 1)))]) rfl ?_
            have h9 := ihb (r + 1) _ (by omega) (Or.inr ⟨j, hj, rfl, by first | exact (sp_best_n hc92).trans hb | exact sp_best_f hb (fun z => by have z9 := of_decide_eq_true z; omega)⟩)
            rw [show ((r + 1 : Nat) : Int) = (r : Int) + 1 by omega] at h9
            exact h9
          · refine dz_aload_n x.1 0 d_Model_readOne_54 rfl rfl ?_
            refine dz_getr x.1 (ly_Model b) fl_Model_13 (lr_Model_6 b) d_Model_readOne_55 ?_
            refine dz_iload x.1 5 d_Model_readOne_58 rfl ?_
            refine dz_iald (w := (sp_k (S r))) x.1 (ly_MKinds b) (by decide) (by omega) d_Model_readOne_60 hr1.1.1 ?_
            refine dz_aload_n x.1 0 d_Model_readOne_61 rfl rfl ?_
            refine dz_getr x.1 (ly_Model b) fl_Model_13 (lr_Model_6 b) d_Model_readOne_62 ?_
            refine dz_iload x.1 4 d_Model_readOne_65 rfl ?_
            refine dz_iald (w := (sp_k (S j))) x.1 (ly_MKinds b) (by decide) (by omega) d_Model_readOne_67 hj1.1.1 ?_
            refine dz_icmp_ge (tgt := 75) x.1 d_Model_readOne_68 (by decide) (by omega) (by omega) (fun hc68 => ?_) (fun hc68 => ?_)
            · refine dz_iconst x.1 d_Model_readOne_75 ?_
              refine dz_istore (ls' := [(0, .ref (b + 130)), (1, .int (dz_i (B + p))), (2, .int (dz_i (B + bg))), (3, .int (dz_i (B + e))), (4, .int (dz_i (j : Int))), (5, .int (dz_i (r : Int))), (6, .int (dz_i 0))]) x.1 d_Model_readOne_76 hN (by decide) rfl ?_
              refine dz_iload x.1 6 d_Model_readOne_78 rfl ?_
              refine dz_if_eq (tgt := 100) x.1 d_Model_readOne_80 (by decide) (by omega) (fun hc80 => ?_) (fun hc80 => by exfalso; omega)
              refine dz_iload x.1 4 d_Model_readOne_100 rfl ?_
              refine dz_istore (ls' := [(0, .ref (b + 130)), (1, .int (dz_i (B + p))), (2, .int (dz_i (B + bg))), (3, .int (dz_i (B + e))), (4, .int (dz_i (j : Int))), (5, .int (dz_i (r : Int))), (6, .int (dz_i 0))]) x.1 d_Model_readOne_102 hN (by decide) rfl ?_
              refine dz_iinc (z := (r : Int) + 1) (ls' := [(0, .ref (b + 130)), (1, .int (dz_i (B + p))), (2, .int (dz_i (B + bg))), (3, .int (dz_i (B + e))), (4, .int (dz_i (j : Int))), (5, .int (dz_i ((r : Int) + 1))), (6, .int (dz_i 0))]) x.1 5 d_Model_readOne_104 rfl hN (by decide) (by omega) rfl ?_
              refine dz_goto (tgt := 6) x.1 d_Model_readOne_107 (by decide) ?_
              refine dz_take 6 (ls' := [(0, .ref (b + 130)), (1, .int (dz_i (B + p))), (2, .int (dz_i (B + bg))), (3, .int (dz_i (B + e))), (4, .int (dz_i (j : Int))), (5, .int (dz_i ((r : Int) + 1)))]) rfl ?_
              have h9 := ihb (r + 1) _ (by omega) (Or.inr ⟨j, hj, rfl, by first | exact (sp_best_n hc92).trans hb | exact sp_best_f hb (fun z => by have z9 := of_decide_eq_true z; omega)⟩)
              rw [show ((r + 1 : Nat) : Int) = (r : Int) + 1 by omega] at h9
              exact h9
            · refine dz_iconst x.1 d_Model_readOne_71 ?_
              refine dz_goto (tgt := 76) x.1 d_Model_readOne_72 (by decide) ?_
              refine dz_istore (ls' := [(0, .ref (b + 130)), (1, .int (dz_i (B + p))), (2, .int (dz_i (B + bg))), (3, .int (dz_i (B + e))), (4, .int (dz_i (j : Int))), (5, .int (dz_i (r : Int))), (6, .int (dz_i 1))]) x.1 d_Model_readOne_76 hN (by decide) rfl ?_
              refine dz_iload x.1 6 d_Model_readOne_78 rfl ?_
              refine dz_if_eq (tgt := 100) x.1 d_Model_readOne_80 (by decide) (by omega) (fun hc80 => by exfalso; omega) (fun hc80 => ?_)
              refine dz_aload_n x.1 0 d_Model_readOne_83 rfl rfl ?_
              refine dz_iload x.1 5 d_Model_readOne_84 rfl ?_
              refine dz_iload_n x.1 1 d_Model_readOne_86 rfl rfl ?_
              refine dz_iload_n x.1 2 d_Model_readOne_87 rfl rfl ?_
              refine dz_iload_n x.1 3 d_Model_readOne_88 rfl rfl ?_
              refine ly_callV (rest := []) x cl_Model_145 (c_Model_cellsStand l D Dt b sz I c S RI B m h CI r (by omega) f e p bg hf he hp hbg) (by decide) (ly_Model b) rfl rfl rfl rfl (Nat.le_of_ble_eq_true rfl) d_Model_readOne_89 (fun v I' hp89 => ?_)
              obtain ⟨rfl, hp89I⟩ := hp89
              have hp89I := hp89I.symm
              subst hp89I
              show ly_V κ b sz I 92 [(0, .ref (b + 130)), (1, .int (dz_i (B + p))), (2, .int (dz_i (B + bg))), (3, .int (dz_i (B + e))), (4, .int (dz_i (j : Int))), (5, .int (dz_i (r : Int))), (6, .int (dz_i 1))] [.int (dz_i (if sp_mcs h S bg e p r = true then 1 else 0))]
              refine dz_if_eq (tgt := 100) x.1 d_Model_readOne_92 (by decide) (dz_br _) (fun hc92 => ?_) (fun hc92 => ?_)
              · have hc92 : ¬ (sp_mcs h S bg e p r = true) := dz_bf hc92
                refine dz_iload x.1 4 d_Model_readOne_100 rfl ?_
                refine dz_istore (ls' := [(0, .ref (b + 130)), (1, .int (dz_i (B + p))), (2, .int (dz_i (B + bg))), (3, .int (dz_i (B + e))), (4, .int (dz_i (j : Int))), (5, .int (dz_i (r : Int))), (6, .int (dz_i 1))]) x.1 d_Model_readOne_102 hN (by decide) rfl ?_
                refine dz_iinc (z := (r : Int) + 1) (ls' := [(0, .ref (b + 130)), (1, .int (dz_i (B + p))), (2, .int (dz_i (B + bg))), (3, .int (dz_i (B + e))), (4, .int (dz_i (j : Int))), (5, .int (dz_i ((r : Int) + 1))), (6, .int (dz_i 1))]) x.1 5 d_Model_readOne_104 rfl hN (by decide) (by omega) rfl ?_
                refine dz_goto (tgt := 6) x.1 d_Model_readOne_107 (by decide) ?_
                refine dz_take 6 (ls' := [(0, .ref (b + 130)), (1, .int (dz_i (B + p))), (2, .int (dz_i (B + bg))), (3, .int (dz_i (B + e))), (4, .int (dz_i (j : Int))), (5, .int (dz_i ((r : Int) + 1)))]) rfl ?_
                have h9 := ihb (r + 1) _ (by omega) (Or.inr ⟨j, hj, rfl, by first | exact (sp_best_n hc92).trans hb | exact sp_best_f hb (fun z => by have z9 := of_decide_eq_true z; omega)⟩)
                rw [show ((r + 1 : Nat) : Int) = (r : Int) + 1 by omega] at h9
                exact h9
              · have hc92 : sp_mcs h S bg e p r = true := dz_bt hc92
                refine dz_iload x.1 5 d_Model_readOne_95 rfl ?_
                refine dz_goto (tgt := 102) x.1 d_Model_readOne_97 (by decide) ?_
                refine dz_istore (ls' := [(0, .ref (b + 130)), (1, .int (dz_i (B + p))), (2, .int (dz_i (B + bg))), (3, .int (dz_i (B + e))), (4, .int (dz_i (r : Int))), (5, .int (dz_i (r : Int))), (6, .int (dz_i 1))]) x.1 d_Model_readOne_102 hN (by decide) rfl ?_
                refine dz_iinc (z := (r : Int) + 1) (ls' := [(0, .ref (b + 130)), (1, .int (dz_i (B + p))), (2, .int (dz_i (B + bg))), (3, .int (dz_i (B + e))), (4, .int (dz_i (r : Int))), (5, .int (dz_i ((r : Int) + 1))), (6, .int (dz_i 1))]) x.1 5 d_Model_readOne_104 rfl hN (by decide) (by omega) rfl ?_
                refine dz_goto (tgt := 6) x.1 d_Model_readOne_107 (by decide) ?_
                refine dz_take 6 (ls' := [(0, .ref (b + 130)), (1, .int (dz_i (B + p))), (2, .int (dz_i (B + bg))), (3, .int (dz_i (B + e))), (4, .int (dz_i (r : Int))), (5, .int (dz_i ((r : Int) + 1)))]) rfl ?_
                have h9 := ihb (r + 1) _ (by omega) (Or.inr ⟨r, by omega, rfl, sp_best_t hb hc92 (decide_eq_true (by omega))⟩)
                rw [show ((r + 1 : Nat) : Int) = (r : Int) + 1 by omega] at h9
                exact h9
  show ly_V κ b sz I 0 [(0, .ref (b + 130)), (1, .int (dz_i (B + p))), (2, .int (dz_i (B + bg))), (3, .int (dz_i (B + e)))] []
  refine dz_iconst x.1 d_Model_readOne_0 ?_
  refine dz_istore (ls' := [(0, .ref (b + 130)), (1, .int (dz_i (B + p))), (2, .int (dz_i (B + bg))), (3, .int (dz_i (B + e))), (4, .int (dz_i (-1)))]) x.1 d_Model_readOne_1 hN (by decide) rfl ?_
  refine dz_iconst x.1 d_Model_readOne_3 ?_
  refine dz_istore (ls' := [(0, .ref (b + 130)), (1, .int (dz_i (B + p))), (2, .int (dz_i (B + bg))), (3, .int (dz_i (B + e))), (4, .int (dz_i (-1))), (5, .int (dz_i 0))]) x.1 d_Model_readOne_4 hN (by decide) rfl ?_
  exact loopb c 0 (-1) (by omega) (Or.inl ⟨rfl, rfl⟩)
