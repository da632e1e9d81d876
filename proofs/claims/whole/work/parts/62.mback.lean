theorem sp_bk_in {h : Int → Int} {c : Nat} {S : Nat → sp_Ru} : ∀ (d k : Nat) (j : Int), (∀ i : Int, j - 1 ≤ i → i < j + (d : Int) → ¬ h i = 0) → d ≤ k → sp_bk h c S k j = sp_bk h c S (k - d) (j + (d : Int)) := by
  intro d
  induction d with
  | zero => intro k j _ _; rw [show j + ((0 : Nat) : Int) = j by omega]; rfl
  | succ d ih =>
    intro k j hj hk
    cases k with
    | zero => omega
    | succ k =>
      simp only [sp_bk]
      rw [if_neg (hj j (by omega) (by omega)), if_neg (hj (j - 1) (by omega) (by omega)), List.nil_append, ih k (j + 1) (fun i h1 h2 => hj i (by omega) (by omega)) (by omega)]
      rw [show k + 1 - (d + 1) = k - d by omega, show j + 1 + (d : Int) = j + ((d + 1 : Nat) : Int) by omega]
theorem sp_bk_pi {m : Int} {h : Int → Int} (H : sp_hh m h) {c : Nat} {S : Nat → sp_Ru} {f : Int} (hf : 0 ≤ f ∧ f < m) (h1 : ¬ h f = 0) (h0 : h (f - 1) = 0) : sp_bk h c S (m - f).toNat f = sp_pi h c S f ++ sp_bk h c S (m - sp_ep h f).toNat (sp_ep h f) := by
  have he := sp_hh_ep H (q := f) (by omega)
  have h2 := he.2.2.1 h1
  rw [show (m - f).toNat = (m - f - 1).toNat + 1 by omega]
  simp only [sp_bk]
  rw [if_neg h1, if_pos h0, sp_bk_in (sp_ep h f - f - 1).toNat (m - f - 1).toNat (f + 1) (fun i a1 a2 => he.2.2.2.2.2 i (by omega) (by omega)) (by omega)]
  rw [show (m - f - 1).toNat - (sp_ep h f - f - 1).toNat = (m - sp_ep h f).toNat by omega, show f + 1 + ((sp_ep h f - f - 1).toNat : Int) = sp_ep h f by omega]
theorem sp_bk_0 {m : Int} {h : Int → Int} {c : Nat} {S : Nat → sp_Ru} {f : Int} (hf : 0 ≤ f ∧ f < m) (h1 : h f = 0) : sp_bk h c S (m - f).toNat f = [32] ++ sp_bk h c S (m - (f + 1)).toNat (f + 1) := by
  rw [show (m - f).toNat = (m - (f + 1)).toNat + 1 by omega]
  simp only [sp_bk]
  rw [if_pos h1]
theorem sp_MB.mc {b : Nat} {J : dz_Hp} {nb : Nat} {Bk : Nat → sp_Bk} (M : sp_MB b J nb Bk) {q : Int} (hq : 0 ≤ q ∧ q < (nb : Int)) : sp_MC b J (240 * q) ((Bk q.toNat).2.length : Int) (sp_oh (Bk q.toNat).2) := by
  have hn := M.2.1
  have h9 := M.2.2 q.toNat (by omega)
  refine ⟨sp_oh_hh h9.2.2.2, by omega, fun p p1 p2 => ?_⟩
  have hil : p.toNat < (Bk q.toNat).2.length := by omega
  have hie : (Bk q.toNat).2[p.toNat]? = some ((Bk q.toNat).2.getD p.toNat (0, 0)) := by rw [List.getD_eq_getElem?_getD, List.getElem?_eq_getElem hil]; rfl
  have h8 := (h9.2.2.1 p.toNat _ hie).1
  rw [show ((q.toNat : Nat) : Int) = q by omega, show ((p.toNat : Nat) : Int) = p by omega] at h8
  unfold sp_oh
  rw [if_pos (by omega), h8]
theorem sp_MO.hrd {b : Nat} {I J : dz_Hp} {W T n : Int} {g : Int → Int} {c : Nat} {S : Nat → sp_Ru} {w : Int} {nb : Nat} {Bk : Nat → sp_Bk} {H H' : List Int} (M : sp_MO b I W T n g c S w nb Bk H) (h1 : ∀ k : Int, k = 1 ∨ k = 2 ∨ k = 3 ∨ k = 5 ∨ k = 11 ∨ k = 12 → J (b + 130) k = I (b + 130) k) (h2 : ∀ q, b + 131 ≤ q → q ≤ b + 140 → J q = I q) (hH : sp_MH b J H') : sp_MO b J W T n g c S w nb Bk H' := by
  obtain ⟨a1, a2, a3, a4, a5, a6, a7⟩ := M
  exact ⟨a1, by rw [h1 1 (by omega), h1 2 (by omega)]; exact a2, a3.fr (h1 3 (by omega)) (h2 _ (by omega) (by omega)), a4.fr (h1 5 (by omega)) (fun q q1 q2 => h2 q (by omega) (by omega)), by rw [h1 11 (by omega)]; exact a5, a6.fr (h1 12 (by omega)) (h2 _ (by omega) (by omega)) (h2 _ (by omega) (by omega)) (h2 _ (by omega) (by omega)) (h2 _ (by omega) (by omega)), hH⟩
set_option maxRecDepth 100000 in
set_option maxHeartbeats 4000000 in
theorem c_Model_back (l : Launch) (D : va_G) (Dt : Nat → ClassId) (b sz : Nat) (I : dz_Hp) (W T n : Int) (g : Int → Int) (c : Nat) (S : Nat → sp_Ru) (w : Int) (nb : Nat) (Bk : Nat → sp_Bk) (H : List Int) (MI : sp_MO b I W T n g c S w nb Bk H) (q : Int) (hq : -2147483648 ≤ q ∧ q < 2147483648) : ly_M l D Dt b sz y_Model_back b_Model_back 5 (some .int) 6 [.ref (b + 130), .int (dz_i q)] I (fun v I' => sp_fr I I' (fun q => b + 130 ≤ q ∧ q < b + 145) ∧ (((0 ≤ q ∧ q < (nb : Int)) ∧ v = some (.int (dz_i ((sp_bk (sp_oh (Bk q.toNat).2) c S (Bk q.toNat).2.length 0).length : Int))) ∧ I' (b + 130) 0 = 0 ∧ sp_MO b I' W T n g c S w nb Bk (sp_bk (sp_oh (Bk q.toNat).2) c S (Bk q.toNat).2.length 0)) ∨ (¬ (0 ≤ q ∧ q < (nb : Int)) ∧ I' (b + 130) 0 = 1 ∧ v = some (.int (dz_i 0)) ∧ sp_MO b I' W T n g c S w nb Bk H))) := by
  refine ly_enter R_Model (by decide) rfl (Nat.le_of_ble_eq_true rfl) (ly_cat _ 0 rfl) (fun κ x => ?_)
  have hN := ly_N x
  obtain ⟨⟨hW, hT⟩, hWT, TI, RI, hw1, BI, HI⟩ := id MI
  have hn9 := TI.2.1.1
  have hc24 := RI.2.1
  have hnb := BI.2.1
  have hHl := HI.2.1
  show ly_V κ b sz I 0 [(0, .ref (b + 130)), (1, .int (dz_i q))] []
  refine dz_aload_n x.1 0 d_Model_back_0 rfl rfl ?_
  refine dz_aload_n x.1 0 d_Model_back_1 rfl rfl ?_
  refine dz_iload_n x.1 1 d_Model_back_2 rfl rfl ?_
  refine ly_callV (rest := [.ref (b + 130)]) x cl_Model_135 (c_Model_noBlock l D Dt b sz I nb BI.1 hnb q hq) (by decide) (ly_Model b) rfl rfl rfl rfl (Nat.le_of_ble_eq_true rfl) d_Model_back_3 (fun v I' hp3 => ?_)
  obtain ⟨rfl, hp3I⟩ := hp3
  have hp3I := hp3I.symm
  subst hp3I
  show ly_V κ b sz I 6 [(0, .ref (b + 130)), (1, .int (dz_i q))] [.int (dz_i (if ¬ (0 ≤ q ∧ q < (nb : Int)) then 1 else 0)), .ref (b + 130)]
  refine dz_if_eq (tgt := 13) x.1 d_Model_back_6 (by decide) (dz_br _) (fun hc6 => ?_) (fun hc6 => ?_)
  · have hc6 : ¬ (¬ (0 ≤ q ∧ q < (nb : Int))) := dz_bf hc6
    refine dz_iconst x.1 d_Model_back_13 ?_
    refine dz_puti x.1 (ly_Model b) fl_Model_63 fp_Model_0 d_Model_back_14 ?_
    refine dz_aload_n x.1 0 d_Model_back_17 rfl rfl ?_
    refine dz_geti (z := 0) x.1 (ly_Model b) fl_Model_63 d_Model_back_18 (dz_up_s _ _ _ _) ?_
    refine dz_if_eq (tgt := 26) x.1 d_Model_back_21 (by decide) (by omega) (fun hc21 => ?_) (fun hc21 => by exfalso; omega)
    refine dz_aload_n x.1 0 d_Model_back_26 rfl rfl ?_
    refine dz_iconst x.1 d_Model_back_27 ?_
    refine dz_puti x.1 (ly_Model b) fl_Model_142 fp_Model_17 d_Model_back_28 ?_
    refine dz_sipush x.1 d_Model_back_31 (by decide) ?_
    refine dz_iload_n x.1 1 d_Model_back_34 rfl rfl ?_
    refine dz_imul (z := 240 * q) x.1 d_Model_back_35 (by omega) ?_
    refine dz_istore_n (ls' := [(0, .ref (b + 130)), (1, .int (dz_i q)), (2, .int (dz_i (240 * q)))]) x.1 d_Model_back_36 rfl hN (by decide) rfl ?_
    refine dz_iload_n x.1 2 d_Model_back_37 rfl rfl ?_
    refine dz_aload_n x.1 0 d_Model_back_38 rfl rfl ?_
    refine dz_getr x.1 (ly_Model b) fl_Model_36 (lr_Model_14 b) d_Model_back_39 ?_
    refine dz_iload_n x.1 1 d_Model_back_42 rfl rfl ?_
    refine dz_iald (w := ((Bk q.toNat).2.length : Int)) x.1 (ly_MSizes b) (by decide) (by omega) d_Model_back_43 (by rw [dz_up_n _ _ _ (by omega)]; rw [dz_up_n _ _ _ (by omega)]; exact (by have h9 := (BI.2.2 q.toNat (by omega)).2.1; rw [show ((q.toNat : Nat) : Int) = q by omega] at h9; exact h9)) ?_
    refine dz_iadd (z := 240 * q + ((Bk q.toNat).2.length : Int)) x.1 d_Model_back_44 (by omega) ?_
    refine dz_istore_n (ls' := [(0, .ref (b + 130)), (1, .int (dz_i q)), (2, .int (dz_i (240 * q))), (3, .int (dz_i (240 * q + ((Bk q.toNat).2.length : Int))))]) x.1 d_Model_back_45 rfl hN (by decide) rfl ?_
    have hok : (0 ≤ q ∧ q < (nb : Int)) := by omega
    have CI := BI.mc hok
    obtain ⟨h, hh⟩ : ∃ h, h = sp_oh (Bk q.toNat).2 := ⟨_, rfl⟩
    obtain ⟨m, hm9⟩ : ∃ m : Int, m = ((Bk q.toNat).2.length : Int) := ⟨_, rfl⟩
    rw [← hh, ← hm9] at CI
    obtain ⟨K, hK⟩ : ∃ K, K = dz_up (dz_up I (b + 130) 0 0) (b + 130) 17 0 := ⟨_, rfl⟩
    have hKq : ∀ a, a ≠ b + 130 → K a = I a := fun a ha => by rw [hK, dz_up_n _ _ _ ha, dz_up_n _ _ _ ha]
    have hKk : ∀ k : Int, k ≠ 0 → k ≠ 17 → K (b + 130) k = I (b + 130) k := fun k h1 h2 => by rw [hK, dz_up_k _ _ _ h2, dz_up_k _ _ _ h1]
    have CK : sp_MC b K (240 * q) m h := by unfold sp_MC; rw [hKq _ (by omega)]; exact CI
    have RK : sp_MR b K c S := RI.fr (hKk 5 (by decide) (by decide)) (fun a a1 a2 => hKq a (by omega))
    have hTl : (sp_bk h c S m.toNat 0).length ≤ 1200 := sp_bk_len CI.1 RI.wf2
    have hm2 := CI.1.1
    have hTe : sp_bk (sp_oh (Bk q.toNat).2) c S (Bk q.toNat).2.length 0 = sp_bk h c S m.toNat 0 := by rw [← hh, show m.toNat = (Bk q.toNat).2.length by omega]
    obtain ⟨nx0, rs0, htl0⟩ := HI.2.2.2.2
    have MK : sp_mh b K [] nx0 rs0 := ⟨by rw [hK, dz_up_s]; rfl, by simp, fun i e he => by simp at he, fun e he => by simp at he, by rw [hKk 28 (by decide) (by decide)]; exact htl0⟩
    rw [← hm9]
    rw [← hK]
    have loop : ∀ (k : Nat) (i : Int) (H2 : List Int) (nx : Bool) (rs : Bool) (J : dz_Hp), (0 ≤ i ∧ i ≤ m ∧ m - i ≤ (k : Int)) → (h (i - 1) = 0 ∨ h i = 0) → (sp_fh b K J) → (sp_mh b J H2 nx rs) → (H2 ++ sp_bk h c S (m - i).toNat i = sp_bk h c S m.toNat 0) → ly_V κ b sz J 46 [(0, .ref (b + 130)), (1, .int (dz_i q)), (2, .int (dz_i (240 * q + i))), (3, .int (dz_i (240 * q + m)))] [] := by
      intro k
      induction k with
      | zero =>
        intro i H2 nx rs J hi hbd FJ MJ hS
        refine dz_iload_n x.1 2 d_Model_back_46 rfl rfl ?_
        refine dz_iload_n x.1 3 d_Model_back_47 rfl rfl ?_
        refine dz_icmp_ge (tgt := 110) x.1 d_Model_back_48 (by decide) (by omega) (by omega) (fun hc48 => ?_) (fun hc48 => by exfalso; omega)
        refine dz_aload_n x.1 0 d_Model_back_110 rfl rfl ?_
        refine dz_geti (z := (H2.length : Int)) x.1 (ly_Model b) fl_Model_142 d_Model_back_111 MJ.1 ?_
        have hfin : H2 = sp_bk h c S m.toNat 0 := by rw [← hS, show (m - i).toNat = 0 by omega]; simp [sp_bk]
        exact ly_iret x d_Model_back_114 rfl ⟨sp_fr.tr (sp_fr.up (sp_fr.up (sp_fr.rf (P := fun q => b + 130 ≤ q ∧ q < b + 145)) (show b + 130 ≤ b + 130 ∧ b + 130 < b + 145 by omega)) (show b + 130 ≤ b + 130 ∧ b + 130 < b + 145 by omega)) (hK ▸ FJ.1) (fun a h => by rcases h with h | h <;> omega), Or.inl ⟨hok, by rw [hTe, hfin], by rw [FJ.2 0 (by decide) (by decide), hK, dz_up_k _ _ _ (by decide), dz_up_s], by rw [hTe]; exact MI.hrd (fun k hk => by rw [FJ.2 k (by omega) (by omega), hKk k (by omega) (by omega)]) (fun a a1 a2 => by rw [FJ.at (by omega) (by omega), hKq a (by omega)]) ⟨by rw [← hfin]; exact MJ.1, hTl, by rw [← hfin]; exact MJ.2.2.1, by rw [← hfin]; exact MJ.2.2.2.1, nx, rs, MJ.2.2.2.2⟩⟩⟩
      | succ k ih =>
        intro i H2 nx rs J hi hbd FJ MJ hS
        by_cases him : i < m
        · have hhi := CI.1.2.2 i
          by_cases h0 : h i = 0
          · have hst := sp_bk_0 (c := c) (S := S) (m := m) ⟨hi.1, him⟩ h0
            have hT2 := hTl
            rw [← hS, hst] at hT2
            simp only [List.length_append, List.length_cons, List.length_nil] at hT2
            refine dz_iload_n x.1 2 d_Model_back_46 rfl rfl ?_
            refine dz_iload_n x.1 3 d_Model_back_47 rfl rfl ?_
            refine dz_icmp_ge (tgt := 110) x.1 d_Model_back_48 (by decide) (by omega) (by omega) (fun hc48 => by exfalso; omega) (fun hc48 => ?_)
            refine dz_aload_n x.1 0 d_Model_back_51 rfl rfl ?_
            refine dz_getr x.1 (ly_Model b) fl_Model_39 (lr_Model_15 b) d_Model_back_52 ?_
            refine dz_iload_n x.1 2 d_Model_back_55 rfl rfl ?_
            refine dz_iald (w := (h i)) x.1 (ly_MCells b) (by decide) (by omega) d_Model_back_56 ((CK.fh FJ).2.2 i (by omega) (by omega)) ?_
            refine dz_if_ne (tgt := 72) x.1 d_Model_back_57 (by decide) (by omega) (fun hc57 => by exfalso; omega) (fun hc57 => ?_)
            refine dz_aload_n x.1 0 d_Model_back_60 rfl rfl ?_
            refine dz_bipush x.1 d_Model_back_61 (by decide) ?_
            refine ly_callV (rest := []) x cl_Model_153 (c_Model_hear l D Dt b sz J H2 nx rs MJ (by omega) 32 (by omega)) (by decide) (ly_Model b) rfl rfl rfl rfl (Nat.le_of_ble_eq_true rfl) d_Model_back_63 (fun v J63 hp63 => ?_)
            obtain ⟨rfl, hf63, M63⟩ := hp63
            rw [sp_pc_d (by omega), sp_nx_d (by omega)] at M63
            show ly_V κ b sz J63 66 [(0, .ref (b + 130)), (1, .int (dz_i q)), (2, .int (dz_i (240 * q + i))), (3, .int (dz_i (240 * q + m)))] []
            refine dz_iinc (z := 240 * q + i + 1) (ls' := [(0, .ref (b + 130)), (1, .int (dz_i q)), (2, .int (dz_i (240 * q + i + 1))), (3, .int (dz_i (240 * q + m)))]) x.1 2 d_Model_back_66 rfl hN (by decide) (by omega) rfl ?_
            refine dz_goto (tgt := 46) x.1 d_Model_back_69 (by decide) ?_
            have h9 := ih (i + 1) _ nx rs J63 (by omega) (Or.inl (by rw [show i + 1 - 1 = i by omega]; exact h0)) (FJ.tr hf63) M63 (by rw [← hS, hst, List.append_assoc])
            rw [← Int.add_assoc] at h9
            exact h9
          · have h01 : h (i - 1) = 0 := hbd.resolve_right h0
            have hst := sp_bk_pi (c := c) (S := S) CI.1 ⟨hi.1, him⟩ h0 h01
            have hep := sp_hh_ep CI.1 (q := i) (by omega)
            have hep1 := hep.2.2.1 h0
            obtain ⟨e, he⟩ : ∃ e, e = sp_ep h i := ⟨_, rfl⟩
            rw [← he] at hst hep hep1
            have hT2 := hTl
            rw [← hS, hst, ← List.append_assoc, List.length_append] at hT2
            have k97 : ly_V κ b sz J 97 [(0, .ref (b + 130)), (1, .int (dz_i q)), (2, .int (dz_i (240 * q + i))), (3, .int (dz_i (240 * q + m))), (4, .int (dz_i (240 * q + e)))] [] := by
              refine dz_aload_n x.1 0 d_Model_back_97 rfl rfl ?_
              refine dz_iload_n x.1 2 d_Model_back_98 rfl rfl ?_
              refine dz_iload x.1 4 d_Model_back_99 rfl ?_
              refine ly_callV (rest := []) x cl_Model_164 (c_Model_readPiece l D Dt b sz J c S (RK.fh FJ) (240 * q) m h (CK.fh FJ) H2 nx rs MJ i e (by omega) he (Nat.le_trans (Nat.le_add_right _ _) hT2)) (by decide) (ly_Model b) rfl rfl rfl rfl (Nat.le_of_ble_eq_true rfl) d_Model_back_101 (fun v J101 hp101 => ?_)
              obtain ⟨rfl, hf101, nx1, rs1, M101⟩ := hp101
              show ly_V κ b sz J101 104 [(0, .ref (b + 130)), (1, .int (dz_i q)), (2, .int (dz_i (240 * q + i))), (3, .int (dz_i (240 * q + m))), (4, .int (dz_i (240 * q + e)))] []
              refine dz_iload x.1 4 d_Model_back_104 rfl ?_
              refine dz_istore_n (ls' := [(0, .ref (b + 130)), (1, .int (dz_i q)), (2, .int (dz_i (240 * q + e))), (3, .int (dz_i (240 * q + m))), (4, .int (dz_i (240 * q + e)))]) x.1 d_Model_back_106 rfl hN (by decide) rfl ?_
              refine dz_goto (tgt := 46) x.1 d_Model_back_107 (by decide) ?_
              refine dz_take 4 (ls' := [(0, .ref (b + 130)), (1, .int (dz_i q)), (2, .int (dz_i (240 * q + e))), (3, .int (dz_i (240 * q + m)))]) rfl ?_
              exact ih e _ nx1 rs1 J101 (by omega) (Or.inr hep.2.2.2.2.1) (FJ.tr hf101) M101 (by rw [← hS, hst, List.append_assoc])
            have loope : ∀ (k2 : Nat) (j : Int), (i ≤ j ∧ j ≤ e ∧ e - j ≤ (k2 : Int)) → ly_V κ b sz J 75 [(0, .ref (b + 130)), (1, .int (dz_i q)), (2, .int (dz_i (240 * q + i))), (3, .int (dz_i (240 * q + m))), (4, .int (dz_i (240 * q + j)))] [] := by
              intro k2
              induction k2 with
              | zero =>
                intro j hj
                refine dz_iload x.1 4 d_Model_back_75 rfl ?_
                refine dz_iload_n x.1 3 d_Model_back_77 rfl rfl ?_
                refine dz_icmp_ge (tgt := 97) x.1 d_Model_back_78 (by decide) (by omega) (by omega) (fun hc78 => ?_) (fun hc78 => ?_)
                · have ej : j = e := by
                    by_cases z : j < e
                    · exfalso
                      have := hep.2.2.2.2.2 j (by omega) z
                      omega
                    · omega
                  subst ej
                  exact k97
                · have hhj := CI.1.2.2 j
                  refine dz_aload_n x.1 0 d_Model_back_81 rfl rfl ?_
                  refine dz_getr x.1 (ly_Model b) fl_Model_39 (lr_Model_15 b) d_Model_back_82 ?_
                  refine dz_iload x.1 4 d_Model_back_85 rfl ?_
                  refine dz_iald (w := (h j)) x.1 (ly_MCells b) (by decide) (by omega) d_Model_back_87 ((CK.fh FJ).2.2 j (by omega) (by omega)) ?_
                  refine dz_if_eq (tgt := 97) x.1 d_Model_back_88 (by decide) (by omega) (fun hc88 => ?_) (fun hc88 => ?_)
                  · have ej : j = e := by
                      by_cases z : j < e
                      · exfalso
                        have := hep.2.2.2.2.2 j (by omega) z
                        omega
                      · omega
                    subst ej
                    exact k97
                  · refine dz_iinc (z := 240 * q + j + 1) (ls' := [(0, .ref (b + 130)), (1, .int (dz_i q)), (2, .int (dz_i (240 * q + i))), (3, .int (dz_i (240 * q + m))), (4, .int (dz_i (240 * q + j + 1)))]) x.1 4 d_Model_back_91 rfl hN (by decide) (by omega) rfl ?_
                    refine dz_goto (tgt := 75) x.1 d_Model_back_94 (by decide) ?_
                    exfalso
                    have ej : j = e := by omega
                    subst ej
                    exact hc88 hep.2.2.2.2.1
              | succ k2 ih2 =>
                intro j hj
                refine dz_iload x.1 4 d_Model_back_75 rfl ?_
                refine dz_iload_n x.1 3 d_Model_back_77 rfl rfl ?_
                refine dz_icmp_ge (tgt := 97) x.1 d_Model_back_78 (by decide) (by omega) (by omega) (fun hc78 => ?_) (fun hc78 => ?_)
                · have ej : j = e := by
                    by_cases z : j < e
                    · exfalso
                      have := hep.2.2.2.2.2 j (by omega) z
                      omega
                    · omega
                  subst ej
                  exact k97
                · have hhj := CI.1.2.2 j
                  refine dz_aload_n x.1 0 d_Model_back_81 rfl rfl ?_
                  refine dz_getr x.1 (ly_Model b) fl_Model_39 (lr_Model_15 b) d_Model_back_82 ?_
                  refine dz_iload x.1 4 d_Model_back_85 rfl ?_
                  refine dz_iald (w := (h j)) x.1 (ly_MCells b) (by decide) (by omega) d_Model_back_87 ((CK.fh FJ).2.2 j (by omega) (by omega)) ?_
                  refine dz_if_eq (tgt := 97) x.1 d_Model_back_88 (by decide) (by omega) (fun hc88 => ?_) (fun hc88 => ?_)
                  · have ej : j = e := by
                      by_cases z : j < e
                      · exfalso
                        have := hep.2.2.2.2.2 j (by omega) z
                        omega
                      · omega
                    subst ej
                    exact k97
                  · refine dz_iinc (z := 240 * q + j + 1) (ls' := [(0, .ref (b + 130)), (1, .int (dz_i q)), (2, .int (dz_i (240 * q + i))), (3, .int (dz_i (240 * q + m))), (4, .int (dz_i (240 * q + j + 1)))]) x.1 4 d_Model_back_91 rfl hN (by decide) (by omega) rfl ?_
                    refine dz_goto (tgt := 75) x.1 d_Model_back_94 (by decide) ?_
                    have h9 := ih2 (j + 1) (by have : ¬ j = e := (fun z => hc88 (by rw [z]; exact hep.2.2.2.2.1)); omega)
                    rw [← Int.add_assoc] at h9
                    exact h9
            refine dz_iload_n x.1 2 d_Model_back_46 rfl rfl ?_
            refine dz_iload_n x.1 3 d_Model_back_47 rfl rfl ?_
            refine dz_icmp_ge (tgt := 110) x.1 d_Model_back_48 (by decide) (by omega) (by omega) (fun hc48 => by exfalso; omega) (fun hc48 => ?_)
            refine dz_aload_n x.1 0 d_Model_back_51 rfl rfl ?_
            refine dz_getr x.1 (ly_Model b) fl_Model_39 (lr_Model_15 b) d_Model_back_52 ?_
            refine dz_iload_n x.1 2 d_Model_back_55 rfl rfl ?_
            refine dz_iald (w := (h i)) x.1 (ly_MCells b) (by decide) (by omega) d_Model_back_56 ((CK.fh FJ).2.2 i (by omega) (by omega)) ?_
            refine dz_if_ne (tgt := 72) x.1 d_Model_back_57 (by decide) (by omega) (fun hc57 => ?_) (fun hc57 => by exfalso; omega)
            refine dz_iload_n x.1 2 d_Model_back_72 rfl rfl ?_
            refine dz_istore (ls' := [(0, .ref (b + 130)), (1, .int (dz_i q)), (2, .int (dz_i (240 * q + i))), (3, .int (dz_i (240 * q + m))), (4, .int (dz_i (240 * q + i)))]) x.1 d_Model_back_73 hN (by decide) rfl ?_
            exact loope (e - i).toNat i (by omega)
        · have hnn : m ≤ i := by omega
          refine dz_iload_n x.1 2 d_Model_back_46 rfl rfl ?_
          refine dz_iload_n x.1 3 d_Model_back_47 rfl rfl ?_
          refine dz_icmp_ge (tgt := 110) x.1 d_Model_back_48 (by decide) (by omega) (by omega) (fun hc48 => ?_) (fun hc48 => by exfalso; omega)
          refine dz_aload_n x.1 0 d_Model_back_110 rfl rfl ?_
          refine dz_geti (z := (H2.length : Int)) x.1 (ly_Model b) fl_Model_142 d_Model_back_111 MJ.1 ?_
          have hfin : H2 = sp_bk h c S m.toNat 0 := by rw [← hS, show (m - i).toNat = 0 by omega]; simp [sp_bk]
          exact ly_iret x d_Model_back_114 rfl ⟨sp_fr.tr (sp_fr.up (sp_fr.up (sp_fr.rf (P := fun q => b + 130 ≤ q ∧ q < b + 145)) (show b + 130 ≤ b + 130 ∧ b + 130 < b + 145 by omega)) (show b + 130 ≤ b + 130 ∧ b + 130 < b + 145 by omega)) (hK ▸ FJ.1) (fun a h => by rcases h with h | h <;> omega), Or.inl ⟨hok, by rw [hTe, hfin], by rw [FJ.2 0 (by decide) (by decide), hK, dz_up_k _ _ _ (by decide), dz_up_s], by rw [hTe]; exact MI.hrd (fun k hk => by rw [FJ.2 k (by omega) (by omega), hKk k (by omega) (by omega)]) (fun a a1 a2 => by rw [FJ.at (by omega) (by omega), hKq a (by omega)]) ⟨by rw [← hfin]; exact MJ.1, hTl, by rw [← hfin]; exact MJ.2.2.1, by rw [← hfin]; exact MJ.2.2.2.1, nx, rs, MJ.2.2.2.2⟩⟩⟩
    have h9 := loop m.toNat 0 [] nx0 rs0 K (by omega) (Or.inl (CI.1.2.1 _ (by omega))) sp_fh.rf MK (by rw [show m - 0 = m by omega]; rfl)
    rw [show 240 * q + (0 : Int) = 240 * q by omega] at h9
    exact h9
  · have hc6 : ¬ (0 ≤ q ∧ q < (nb : Int)) := dz_bt hc6
    refine dz_iconst x.1 d_Model_back_9 ?_
    refine dz_goto (tgt := 14) x.1 d_Model_back_10 (by decide) ?_
    refine dz_puti x.1 (ly_Model b) fl_Model_63 fp_Model_0 d_Model_back_14 ?_
    refine dz_aload_n x.1 0 d_Model_back_17 rfl rfl ?_
    refine dz_geti (z := 1) x.1 (ly_Model b) fl_Model_63 d_Model_back_18 (dz_up_s _ _ _ _) ?_
    refine dz_if_eq (tgt := 26) x.1 d_Model_back_21 (by decide) (by omega) (fun hc21 => by exfalso; omega) (fun hc21 => ?_)
    refine dz_iconst x.1 d_Model_back_24 ?_
    exact ly_iret x d_Model_back_25 rfl ⟨((sp_fr.rf (P := fun q => b + 130 ≤ q ∧ q < b + 145)).up (show b + 130 ≤ b + 130 ∧ b + 130 < b + 145 by omega)), Or.inr ⟨hc6, dz_up_s _ _ _ _, rfl, MI.thr _⟩⟩
