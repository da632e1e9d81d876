def sp_mh (b : Nat) (J : dz_Hp) (H : List Int) (nx rs : Bool) : Prop := J (b + 130) 17 = (H.length : Int) ∧ H.length ≤ 1200 ∧ (∀ (i : Nat) (e : Int), H[i]? = some e → J (b + 141) (i : Int) = e) ∧ (∀ e ∈ H, 0 ≤ e ∧ e ≤ 126) ∧ J (b + 130) 28 = sp_tl nx rs
theorem sp_tl_rng (nx rs : Bool) : 0 ≤ sp_tl nx rs ∧ sp_tl nx rs ≤ 2 := by unfold sp_tl; (repeat' split) <;> omega
theorem sp_tl_pos (nx rs : Bool) : 0 < sp_tl nx rs ↔ (nx = true ∨ rs = true) := by cases nx <;> cases rs <;> decide
def sp_fh (b : Nat) (I J : dz_Hp) : Prop := sp_fr I J (fun q => q = b + 130 ∨ q = b + 141) ∧ ∀ k : Int, k ≠ 17 → k ≠ 28 → J (b + 130) k = I (b + 130) k
theorem sp_fh.rf {b : Nat} {I : dz_Hp} : sp_fh b I I := ⟨sp_fr.rf, fun _ _ _ => rfl⟩
theorem sp_fh.tr {b : Nat} {I J K : dz_Hp} (h1 : sp_fh b I J) (h2 : sp_fh b J K) : sp_fh b I K := ⟨h1.1.tr h2.1 (fun _ h => h), fun k a1 a2 => (h2.2 k a1 a2).trans (h1.2 k a1 a2)⟩
theorem sp_fh.at {b : Nat} {I J : dz_Hp} (h : sp_fh b I J) {q : Nat} (h1 : q ≠ b + 130) (h2 : q ≠ b + 141) : J q = I q := h.1 q (fun z => by rcases z with z | z <;> omega)
theorem sp_MR.fh {b : Nat} {I J : dz_Hp} {c : Nat} {S : Nat → sp_Ru} (h : sp_MR b I c S) (hf : sp_fh b I J) : sp_MR b J c S := h.fr (hf.2 5 (by decide) (by decide)) (fun q q1 q2 => hf.at (by omega) (by omega))
theorem sp_MR.wf2 {b : Nat} {J : dz_Hp} {c : Nat} {S : Nat → sp_Ru} (h : sp_MR b J c S) : sp_wfs c S := fun r hr => (h.2.2 r hr).2
/-- the cells of the block from B on: m of them, h -/
def sp_MC (b : Nat) (J : dz_Hp) (B m : Int) (h : Int → Int) : Prop := sp_hh m h ∧ (0 ≤ B ∧ B ≤ 2640) ∧ ∀ p : Int, 0 ≤ p → p < m → J (b + 139) (B + p) = h p
theorem sp_MC.fh {b : Nat} {I J : dz_Hp} {B m : Int} {h : Int → Int} (H : sp_MC b I B m h) (hf : sp_fh b I J) : sp_MC b J B m h := by unfold sp_MC; rw [hf.at (by omega) (by omega)]; exact H
theorem sp_mh.put {b : Nat} {I : dz_Hp} {H : List Int} {nx rs : Bool} (HI : sp_mh b I H nx rs) (hl : H.length < 1200) {v t : Int} (hv : 0 ≤ v ∧ v ≤ 126) {nx' : Bool} (ht : t = sp_tl nx' rs) : sp_mh b (dz_up (dz_up (dz_up I (b + 141) (H.length : Int) v) (b + 130) 17 ((H.length : Int) + 1)) (b + 130) 28 t) (H ++ [v]) nx' rs := by
  obtain ⟨h1, h2, h3, h4, h5⟩ := HI
  refine ⟨by rw [dz_up_k _ _ _ (by decide), dz_up_s]; simp, by simp; omega, fun i e he => ?_, fun e he => ?_, by rw [dz_up_s]; exact ht⟩
  · rw [dz_up_n _ _ _ (by omega), dz_up_n _ _ _ (by omega)]
    by_cases c : i < H.length
    · rw [List.getElem?_append_left c] at he
      rw [dz_up_k _ _ _ (by omega)]
      exact h3 i e he
    · rw [List.getElem?_append_right (by omega)] at he
      have hj : i - H.length = 0 := by
        by_cases c2 : i - H.length = 0
        · exact c2
        · rw [List.getElem?_eq_none (by simp; omega)] at he; cases he
      rw [hj] at he
      have he : v = e := by simpa using he
      rw [← he, show (i : Int) = (H.length : Int) by omega, dz_up_s]
  · rcases List.mem_append.mp he with he | he
    · exact h4 e he
    · have he : e = v := by simpa using he
      rw [he]; exact hv
def sp_ro (h : Int → Int) (c : Nat) (S : Nat → sp_Ru) (bg e : Int) (nx rs : Bool) (p : Int) : List Int × Int × Bool :=
  match sp_best (sp_mcs h S bg e p) (sp_btc S) c with
  | none => ([sp_pc nx rs (sp_chr (h p))], 1, sp_nx nx (sp_chr (h p)))
  | some r => ((sp_ll (S r) nx rs (sp_ln (S r)).toNat).1, sp_cn (S r), (sp_ll (S r) nx rs (sp_ln (S r)).toNat).2)
theorem sp_rd_ro {h : Int → Int} {c : Nat} {S : Nat → sp_Ru} {bg e p : Int} {nu nx rs : Bool} (h0 : ¬ (nu = true ∧ ¬ sp_dig (h p) = 35)) (h1 : ¬ h p = 60) (h2 : ¬ h p = 48) (h3 : ¬ h p = 32) : sp_rd h c S bg e nu nx rs p = ((sp_ro h c S bg e nx rs p).1, (sp_ro h c S bg e nx rs p).2.1, false, (sp_ro h c S bg e nx rs p).2.2, rs) := by
  unfold sp_rd sp_ro
  rw [if_neg h0, if_neg h1, if_neg h2, if_neg h3]
  cases sp_best (sp_mcs h S bg e p) (sp_btc S) c <;> rfl
set_option maxRecDepth 100000 in
set_option maxHeartbeats 4000000 in
theorem c_Model_hear (l : Launch) (D : va_G) (Dt : Nat → ClassId) (b sz : Nat) (I : dz_Hp) (H : List Int) (nx rs : Bool) (HI : sp_mh b I H nx rs) (hl : H.length < 1200) (ch : Int) (hc : 0 ≤ ch ∧ ch ≤ 126) : ly_M l D Dt b sz y_Model_hear b_Model_hear 3 none 2 [.ref (b + 130), .int (dz_i ch)] I (fun v I' => v = none ∧ sp_fh b I I' ∧ sp_mh b I' (H ++ [sp_pc nx rs ch]) (sp_nx nx ch) rs) := by
  refine ly_enter R_Model (by decide) rfl (Nat.le_of_ble_eq_true rfl) (ly_cat _ 0 rfl) (fun κ x => ?_)
  have hN := ly_N x
  have htl := sp_tl_rng nx rs
  have htp := sp_tl_pos nx rs
  show ly_V κ b sz I 0 [(0, .ref (b + 130)), (1, .int (dz_i ch))] []
  refine dz_aload_n x.1 0 d_Model_hear_0 rfl rfl ?_
  refine dz_geti (z := (sp_tl nx rs)) x.1 (ly_Model b) fl_Model_139 d_Model_hear_1 HI.2.2.2.2 ?_
  refine dz_if_le (tgt := 19) x.1 d_Model_hear_4 (by decide) (by omega) (fun hc4 => ?_) (fun hc4 => ?_)
  · refine dz_iconst x.1 d_Model_hear_19 ?_
    refine dz_istore_n (ls' := [(0, .ref (b + 130)), (1, .int (dz_i ch)), (2, .int (dz_i 0))]) x.1 d_Model_hear_20 rfl hN (by decide) rfl ?_
    refine dz_aload_n x.1 0 d_Model_hear_21 rfl rfl ?_
    refine dz_getr x.1 (ly_Model b) fl_Model_45 (lr_Model_18 b) d_Model_hear_22 ?_
    refine dz_aload_n x.1 0 d_Model_hear_25 rfl rfl ?_
    refine dz_geti (z := (H.length : Int)) x.1 (ly_Model b) fl_Model_142 d_Model_hear_26 HI.1 ?_
    refine dz_iload_n x.1 2 d_Model_hear_29 rfl rfl ?_
    refine dz_if_eq (tgt := 41) x.1 d_Model_hear_30 (by decide) (by omega) (fun hc30 => ?_) (fun hc30 => by exfalso; omega)
    refine dz_iload_n x.1 1 d_Model_hear_41 rfl rfl ?_
    refine dz_cast x.1 (ly_MHeard b) (by decide) (by omega) (by omega) d_Model_hear_42 ?_
    refine dz_aload_n x.1 0 d_Model_hear_43 rfl rfl ?_
    refine dz_dup x.1 d_Model_hear_44 rfl ?_
    refine dz_geti (z := (H.length : Int)) x.1 (ly_Model b) fl_Model_142 d_Model_hear_45 (by rw [dz_up_n _ _ _ (by omega)]; exact HI.1) ?_
    refine dz_iconst x.1 d_Model_hear_48 ?_
    refine dz_iadd (z := (H.length : Int) + 1) x.1 d_Model_hear_49 (by omega) ?_
    refine dz_puti x.1 (ly_Model b) fl_Model_142 fp_Model_17 d_Model_hear_50 ?_
    refine dz_aload_n x.1 0 d_Model_hear_53 rfl rfl ?_
    refine dz_iload_n x.1 2 d_Model_hear_54 rfl rfl ?_
    refine dz_if_eq (tgt := 70) x.1 d_Model_hear_55 (by decide) (by omega) (fun hc55 => ?_) (fun hc55 => by exfalso; omega)
    refine dz_aload_n x.1 0 d_Model_hear_70 rfl rfl ?_
    refine dz_geti (z := (sp_tl nx rs)) x.1 (ly_Model b) fl_Model_139 d_Model_hear_71 (by rw [dz_up_k _ _ _ (by omega)]; rw [dz_up_n _ _ _ (by omega)]; exact HI.2.2.2.2) ?_
    refine dz_puti x.1 (ly_Model b) fl_Model_139 fp_Model_28 d_Model_hear_74 ?_
    have hpc : sp_pc nx rs ch = ch := by
      unfold sp_pc
      by_cases hz : nx = true ∨ rs = true
      · have hz2 := htp.mpr hz
        refine (if_pos hz).trans ?_
        unfold sp_big
        first | (exfalso; omega) | exact if_pos (by omega) | exact if_neg (by omega)
      · have hz2 : ¬ 0 < sp_tl nx rs := fun z => hz (htp.mp z)
        refine (if_neg hz).trans ?_
        first | rfl | (exfalso; omega)
    have hnx : (sp_tl nx rs) = sp_tl (sp_nx nx ch) rs := by
      unfold sp_nx
      cases nx <;> cases rs <;> simp only [sp_tl] at * <;> (first | rfl | (rw [if_pos (by omega)]; first | rfl | (exfalso; omega)) | (rw [if_neg (by omega)]; first | rfl | (exfalso; omega)) | (exfalso; simp at *; done) | (exfalso; simp at *; omega) | (simp at *; omega) | (split <;> simp_all))
    exact ly_vret x d_Model_hear_77 ⟨rfl, ⟨((sp_fr.rf.up (Or.inr rfl)).up (Or.inl rfl)).up (Or.inl rfl), fun k h1 h2 => by rw [dz_up_k _ _ _ h2, dz_up_k _ _ _ h1, dz_up_n _ _ _ (by omega)]⟩, by rw [hpc]; exact HI.put hl (by rw [← hpc]; exact sp_pc_rng hc) hnx⟩
  · refine dz_aload_n x.1 0 d_Model_hear_7 rfl rfl ?_
    refine dz_iload_n x.1 1 d_Model_hear_8 rfl rfl ?_
    refine ly_callV (rest := []) x cl_Model_66 (c_Model_isSmall l D Dt b sz I ch (by omega)) (by decide) (ly_Model b) rfl rfl rfl rfl (Nat.le_of_ble_eq_true rfl) d_Model_hear_9 (fun v I' hp9 => ?_)
    obtain ⟨rfl, hp9I⟩ := hp9
    have hp9I := hp9I.symm
    subst hp9I
    show ly_V κ b sz I 12 [(0, .ref (b + 130)), (1, .int (dz_i ch))] [.int (dz_i (if 97 ≤ ch ∧ ch ≤ 122 then 1 else 0))]
    refine dz_if_eq (tgt := 19) x.1 d_Model_hear_12 (by decide) (dz_br _) (fun hc12 => ?_) (fun hc12 => ?_)
    · have hc12 : ¬ (97 ≤ ch ∧ ch ≤ 122) := dz_bf hc12
      refine dz_iconst x.1 d_Model_hear_19 ?_
      refine dz_istore_n (ls' := [(0, .ref (b + 130)), (1, .int (dz_i ch)), (2, .int (dz_i 0))]) x.1 d_Model_hear_20 rfl hN (by decide) rfl ?_
      refine dz_aload_n x.1 0 d_Model_hear_21 rfl rfl ?_
      refine dz_getr x.1 (ly_Model b) fl_Model_45 (lr_Model_18 b) d_Model_hear_22 ?_
      refine dz_aload_n x.1 0 d_Model_hear_25 rfl rfl ?_
      refine dz_geti (z := (H.length : Int)) x.1 (ly_Model b) fl_Model_142 d_Model_hear_26 HI.1 ?_
      refine dz_iload_n x.1 2 d_Model_hear_29 rfl rfl ?_
      refine dz_if_eq (tgt := 41) x.1 d_Model_hear_30 (by decide) (by omega) (fun hc30 => ?_) (fun hc30 => by exfalso; omega)
      refine dz_iload_n x.1 1 d_Model_hear_41 rfl rfl ?_
      refine dz_cast x.1 (ly_MHeard b) (by decide) (by omega) (by omega) d_Model_hear_42 ?_
      refine dz_aload_n x.1 0 d_Model_hear_43 rfl rfl ?_
      refine dz_dup x.1 d_Model_hear_44 rfl ?_
      refine dz_geti (z := (H.length : Int)) x.1 (ly_Model b) fl_Model_142 d_Model_hear_45 (by rw [dz_up_n _ _ _ (by omega)]; exact HI.1) ?_
      refine dz_iconst x.1 d_Model_hear_48 ?_
      refine dz_iadd (z := (H.length : Int) + 1) x.1 d_Model_hear_49 (by omega) ?_
      refine dz_puti x.1 (ly_Model b) fl_Model_142 fp_Model_17 d_Model_hear_50 ?_
      refine dz_aload_n x.1 0 d_Model_hear_53 rfl rfl ?_
      refine dz_iload_n x.1 2 d_Model_hear_54 rfl rfl ?_
      refine dz_if_eq (tgt := 70) x.1 d_Model_hear_55 (by decide) (by omega) (fun hc55 => ?_) (fun hc55 => by exfalso; omega)
      refine dz_aload_n x.1 0 d_Model_hear_70 rfl rfl ?_
      refine dz_geti (z := (sp_tl nx rs)) x.1 (ly_Model b) fl_Model_139 d_Model_hear_71 (by rw [dz_up_k _ _ _ (by omega)]; rw [dz_up_n _ _ _ (by omega)]; exact HI.2.2.2.2) ?_
      refine dz_puti x.1 (ly_Model b) fl_Model_139 fp_Model_28 d_Model_hear_74 ?_
      have hpc : sp_pc nx rs ch = ch := by
        unfold sp_pc
        by_cases hz : nx = true ∨ rs = true
        · have hz2 := htp.mpr hz
          refine (if_pos hz).trans ?_
          unfold sp_big
          first | (exfalso; omega) | exact if_pos (by omega) | exact if_neg (by omega)
        · have hz2 : ¬ 0 < sp_tl nx rs := fun z => hz (htp.mp z)
          refine (if_neg hz).trans ?_
          first | rfl | (exfalso; omega)
      have hnx : (sp_tl nx rs) = sp_tl (sp_nx nx ch) rs := by
        unfold sp_nx
        cases nx <;> cases rs <;> simp only [sp_tl] at * <;> (first | rfl | (rw [if_pos (by omega)]; first | rfl | (exfalso; omega)) | (rw [if_neg (by omega)]; first | rfl | (exfalso; omega)) | (exfalso; simp at *; done) | (exfalso; simp at *; omega) | (simp at *; omega) | (split <;> simp_all))
      exact ly_vret x d_Model_hear_77 ⟨rfl, ⟨((sp_fr.rf.up (Or.inr rfl)).up (Or.inl rfl)).up (Or.inl rfl), fun k h1 h2 => by rw [dz_up_k _ _ _ h2, dz_up_k _ _ _ h1, dz_up_n _ _ _ (by omega)]⟩, by rw [hpc]; exact HI.put hl (by rw [← hpc]; exact sp_pc_rng hc) hnx⟩
    · have hc12 : 97 ≤ ch ∧ ch ≤ 122 := dz_bt hc12
      refine dz_iconst x.1 d_Model_hear_15 ?_
      refine dz_goto (tgt := 20) x.1 d_Model_hear_16 (by decide) ?_
      refine dz_istore_n (ls' := [(0, .ref (b + 130)), (1, .int (dz_i ch)), (2, .int (dz_i 1))]) x.1 d_Model_hear_20 rfl hN (by decide) rfl ?_
      refine dz_aload_n x.1 0 d_Model_hear_21 rfl rfl ?_
      refine dz_getr x.1 (ly_Model b) fl_Model_45 (lr_Model_18 b) d_Model_hear_22 ?_
      refine dz_aload_n x.1 0 d_Model_hear_25 rfl rfl ?_
      refine dz_geti (z := (H.length : Int)) x.1 (ly_Model b) fl_Model_142 d_Model_hear_26 HI.1 ?_
      refine dz_iload_n x.1 2 d_Model_hear_29 rfl rfl ?_
      refine dz_if_eq (tgt := 41) x.1 d_Model_hear_30 (by decide) (by omega) (fun hc30 => by exfalso; omega) (fun hc30 => ?_)
      refine dz_iload_n x.1 1 d_Model_hear_33 rfl rfl ?_
      refine dz_bipush x.1 d_Model_hear_34 (by decide) ?_
      refine dz_isub (z := ch - 32) x.1 d_Model_hear_36 (by omega) ?_
      refine dz_i2c x.1 d_Model_hear_37 (by omega) ?_
      refine dz_goto (tgt := 42) x.1 d_Model_hear_38 (by decide) ?_
      refine dz_cast x.1 (ly_MHeard b) (by decide) (by omega) (by omega) d_Model_hear_42 ?_
      refine dz_aload_n x.1 0 d_Model_hear_43 rfl rfl ?_
      refine dz_dup x.1 d_Model_hear_44 rfl ?_
      refine dz_geti (z := (H.length : Int)) x.1 (ly_Model b) fl_Model_142 d_Model_hear_45 (by rw [dz_up_n _ _ _ (by omega)]; exact HI.1) ?_
      refine dz_iconst x.1 d_Model_hear_48 ?_
      refine dz_iadd (z := (H.length : Int) + 1) x.1 d_Model_hear_49 (by omega) ?_
      refine dz_puti x.1 (ly_Model b) fl_Model_142 fp_Model_17 d_Model_hear_50 ?_
      refine dz_aload_n x.1 0 d_Model_hear_53 rfl rfl ?_
      refine dz_iload_n x.1 2 d_Model_hear_54 rfl rfl ?_
      refine dz_if_eq (tgt := 70) x.1 d_Model_hear_55 (by decide) (by omega) (fun hc55 => by exfalso; omega) (fun hc55 => ?_)
      refine dz_aload_n x.1 0 d_Model_hear_58 rfl rfl ?_
      refine dz_geti (z := (sp_tl nx rs)) x.1 (ly_Model b) fl_Model_139 d_Model_hear_59 (by rw [dz_up_k _ _ _ (by omega)]; rw [dz_up_n _ _ _ (by omega)]; exact HI.2.2.2.2) ?_
      refine dz_iconst x.1 d_Model_hear_62 ?_
      refine dz_icmp_ne (tgt := 70) x.1 d_Model_hear_63 (by decide) (by omega) (by omega) (fun hc63 => ?_) (fun hc63 => ?_)
      · refine dz_aload_n x.1 0 d_Model_hear_70 rfl rfl ?_
        refine dz_geti (z := (sp_tl nx rs)) x.1 (ly_Model b) fl_Model_139 d_Model_hear_71 (by rw [dz_up_k _ _ _ (by omega)]; rw [dz_up_n _ _ _ (by omega)]; exact HI.2.2.2.2) ?_
        refine dz_puti x.1 (ly_Model b) fl_Model_139 fp_Model_28 d_Model_hear_74 ?_
        have hpc : sp_pc nx rs ch = ch - 32 := by
          unfold sp_pc
          by_cases hz : nx = true ∨ rs = true
          · have hz2 := htp.mpr hz
            refine (if_pos hz).trans ?_
            unfold sp_big
            first | (exfalso; omega) | exact if_pos (by omega) | exact if_neg (by omega)
          · have hz2 : ¬ 0 < sp_tl nx rs := fun z => hz (htp.mp z)
            refine (if_neg hz).trans ?_
            first | rfl | (exfalso; omega)
        have hnx : (sp_tl nx rs) = sp_tl (sp_nx nx ch) rs := by
          unfold sp_nx
          cases nx <;> cases rs <;> simp only [sp_tl] at * <;> (first | rfl | (rw [if_pos (by omega)]; first | rfl | (exfalso; omega)) | (rw [if_neg (by omega)]; first | rfl | (exfalso; omega)) | (exfalso; simp at *; done) | (exfalso; simp at *; omega) | (simp at *; omega) | (split <;> simp_all))
        exact ly_vret x d_Model_hear_77 ⟨rfl, ⟨((sp_fr.rf.up (Or.inr rfl)).up (Or.inl rfl)).up (Or.inl rfl), fun k h1 h2 => by rw [dz_up_k _ _ _ h2, dz_up_k _ _ _ h1, dz_up_n _ _ _ (by omega)]⟩, by rw [hpc]; exact HI.put hl (by rw [← hpc]; exact sp_pc_rng hc) hnx⟩
      · refine dz_iconst x.1 d_Model_hear_66 ?_
        refine dz_goto (tgt := 74) x.1 d_Model_hear_67 (by decide) ?_
        refine dz_puti x.1 (ly_Model b) fl_Model_139 fp_Model_28 d_Model_hear_74 ?_
        have hpc : sp_pc nx rs ch = ch - 32 := by
          unfold sp_pc
          by_cases hz : nx = true ∨ rs = true
          · have hz2 := htp.mpr hz
            refine (if_pos hz).trans ?_
            unfold sp_big
            first | (exfalso; omega) | exact if_pos (by omega) | exact if_neg (by omega)
          · have hz2 : ¬ 0 < sp_tl nx rs := fun z => hz (htp.mp z)
            refine (if_neg hz).trans ?_
            first | rfl | (exfalso; omega)
        have hnx : 0 = sp_tl (sp_nx nx ch) rs := by
          unfold sp_nx
          cases nx <;> cases rs <;> simp only [sp_tl] at * <;> (first | rfl | (rw [if_pos (by omega)]; first | rfl | (exfalso; omega)) | (rw [if_neg (by omega)]; first | rfl | (exfalso; omega)) | (exfalso; simp at *; done) | (exfalso; simp at *; omega) | (simp at *; omega) | (split <;> simp_all))
        exact ly_vret x d_Model_hear_77 ⟨rfl, ⟨((sp_fr.rf.up (Or.inr rfl)).up (Or.inl rfl)).up (Or.inl rfl), fun k h1 h2 => by rw [dz_up_k _ _ _ h2, dz_up_k _ _ _ h1, dz_up_n _ _ _ (by omega)]⟩, by rw [hpc]; exact HI.put hl (by rw [← hpc]; exact sp_pc_rng hc) hnx⟩
