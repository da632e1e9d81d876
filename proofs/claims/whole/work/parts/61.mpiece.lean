theorem sp_pl_nu {h : Int → Int} {c : Nat} {S : Nat → sp_Ru} {bg e p : Int} {nx rs : Bool} (hz : e ≤ p ∨ sp_dig (h p) = 35) (k : Nat) : sp_pl h c S bg e k p true nx rs = sp_pl h c S bg e k p false nx rs := by
  rcases hz with hz | hz
  · rw [sp_pl_nil hz, sp_pl_nil hz]
  · cases k with
    | zero => rfl
    | succ k =>
      have e9 : sp_rd h c S bg e true nx rs p = sp_rd h c S bg e false nx rs p := by
        unfold sp_rd; rw [if_neg (fun z => z.2 hz), if_neg (c := false = true ∧ ¬ sp_dig (h p) = 35) (fun z => z.2 hz)]
      simp only [sp_pl]; rw [e9]
theorem sp_dig_rng2 {q : Int} (h : ¬ sp_dig q = 35) : 48 ≤ sp_dig q ∧ sp_dig q ≤ 57 := by revert h; unfold sp_dig; (repeat' split) <;> intro h <;> omega
theorem sp_dg_rng (q : Int) : -1 ≤ sp_dg q ∧ sp_dg q ≤ 9 := by
  unfold sp_dg
  by_cases h : sp_dig q = 35
  · rw [if_pos h]; omega
  · rw [if_neg h]; have := sp_dig_rng2 h; omega
theorem sp_pc_d {nx rs : Bool} {d : Int} (h : d < 97) : sp_pc nx rs d = d := by unfold sp_pc sp_big; split <;> (first | rfl | (rw [if_neg (by omega)]))
theorem sp_nx_d {nx : Bool} {d : Int} (h : d < 97) : sp_nx nx d = nx := by unfold sp_nx; rw [if_neg (by omega)]
theorem sp_mh.tall {b : Nat} {I : dz_Hp} {H : List Int} {nx rs nx' rs' : Bool} (HI : sp_mh b I H nx rs) {t : Int} (ht : t = sp_tl nx' rs') : sp_mh b (dz_up I (b + 130) 28 t) H nx' rs' := by
  obtain ⟨h1, h2, h3, h4, h5⟩ := HI
  exact ⟨by rw [dz_up_k _ _ _ (by decide)]; exact h1, h2, fun i e he => by rw [dz_up_n _ _ _ (by omega)]; exact h3 i e he, h4, by rw [dz_up_s]; exact ht⟩
theorem sp_fh.tall {b : Nat} {I J : dz_Hp} (h : sp_fh b I J) (t : Int) : sp_fh b I (dz_up J (b + 130) 28 t) := ⟨h.1.up (Or.inl rfl), fun k a1 a2 => by rw [dz_up_k _ _ _ a2]; exact h.2 k a1 a2⟩
set_option maxRecDepth 100000 in
set_option maxHeartbeats 4000000 in
theorem c_Model_readPiece (l : Launch) (D : va_G) (Dt : Nat → ClassId) (b sz : Nat) (I : dz_Hp) (c : Nat) (S : Nat → sp_Ru) (RI : sp_MR b I c S) (B m : Int) (h : Int → Int) (CI : sp_MC b I B m h) (H : List Int) (nx0 rs0 : Bool) (HI : sp_mh b I H nx0 rs0) (f e : Int) (hf : 0 ≤ f ∧ f < m) (he : e = sp_ep h f) (hlen : (H ++ sp_pi h c S f).length ≤ 1200) : ly_M l D Dt b sz y_Model_readPiece b_Model_readPiece 7 none 5 [.ref (b + 130), .int (dz_i (B + f)), .int (dz_i (B + e))] I (fun v I' => v = none ∧ sp_fh b I I' ∧ ∃ nx rs, sp_mh b I' (H ++ sp_pi h c S f) nx rs) := by
  refine ly_enter R_Model (by decide) rfl (Nat.le_of_ble_eq_true rfl) (ly_cat _ 0 rfl) (fun κ x => ?_)
  have hN := ly_N x
  have hB := CI.2.1
  have hm := CI.1.1
  have hep := sp_hh_ep CI.1 (q := f) (by omega)
  rw [← he] at hep
  obtain ⟨bg, hbg⟩ : ∃ bg, bg = sp_cs h f := ⟨_, rfl⟩
  have hcs0 := sp_cs_ep CI.1 hf.1 (p := f) (by omega) (by omega)
  rw [← he, ← hbg] at hcs0
  have hpi : sp_pi h c S f = sp_pl h c S bg e 300 f false false false := by unfold sp_pi; rw [← he, ← hbg]
  have loop : ∀ (k : Nat) (p : Int) (fu : Nat) (H2 : List Int) (nx : Bool) (rs : Bool) (J : dz_Hp), (f ≤ p ∧ p ≤ e ∧ e - p ≤ (k : Int)) → (e - p ≤ (fu : Int)) → (sp_fh b I J) → (sp_mh b J H2 nx rs) → (H2 ++ sp_pl h c S bg e fu p false nx rs = H ++ sp_pi h c S f) → ly_V κ b sz J 32 [(0, .ref (b + 130)), (1, .int (dz_i (B + f))), (2, .int (dz_i (B + e))), (3, .int (dz_i (B + bg))), (4, .int (dz_i (B + p)))] [] := by
    intro k
    induction k with
    | zero =>
      intro p fu H2 nx rs J hp hfu FJ MJ hS
      refine dz_iload x.1 4 d_Model_readPiece_32 rfl ?_
      refine dz_iload_n x.1 2 d_Model_readPiece_34 rfl rfl ?_
      refine dz_icmp_ge (tgt := 195) x.1 d_Model_readPiece_35 (by decide) (by omega) (by omega) (fun hc35 => ?_) (fun hc35 => by exfalso; omega)
      exact ly_vret x d_Model_readPiece_195 ⟨rfl, FJ, nx, rs, by rw [sp_pl_nil (by omega), List.append_nil] at hS; rw [← hS]; exact MJ⟩
    | succ k ih =>
      intro p fu H2 nx rs J hp hfu FJ MJ hS
      by_cases hpe : p < e
      · have hst := sp_pl_step (h := h) (c := c) (S := S) (bg := bg) (e := e) (p := p) (nu := false) (nx := nx) (rs := rs) hpe (k := fu) (by omega)
        have hrb := sp_rd_b (bg := bg) (nu := false) (nx := nx) (rs := rs) CI.1 RI.wf2 (f := f) (p := p) (by omega) (by omega)
        rw [← he] at hrb
        have hhp := CI.1.2.2 p
        have htl := sp_tl_rng nx rs
        have h00 : ¬ (false = true ∧ ¬ sp_dig (h p) = 35) := fun z => by cases z.1
        by_cases h60 : h p = 60
        · have hrd : (sp_rd h c S bg e false nx rs p) = ([], 1, true, nx, rs) := by unfold sp_rd; rw [if_neg h00, if_pos h60]
          rw [hrd] at hst hrb
          dsimp only at hst hrb
          have loopd : ∀ (k2 : Nat) (p2 : Int) (fu2 : Nat) (H3 : List Int) (J2 : dz_Hp), (f ≤ p2 ∧ p < p2 ∧ p2 ≤ e ∧ e - p2 ≤ (k2 : Int)) → (e - p2 ≤ (fu2 : Int)) → (sp_fh b I J2) → (sp_mh b J2 H3 nx rs) → (H3 ++ sp_pl h c S bg e fu2 p2 true nx rs = H ++ sp_pi h c S f) → ly_V κ b sz J2 57 [(0, .ref (b + 130)), (1, .int (dz_i (B + f))), (2, .int (dz_i (B + e))), (3, .int (dz_i (B + bg))), (4, .int (dz_i (B + p2))), (5, .int (dz_i (h p)))] [] := by
            intro k2
            induction k2 with
            | zero =>
              intro p2 fu2 H3 J2 hp2 hfu2 FJ2 MJ2 hS2
              refine dz_iload x.1 4 d_Model_readPiece_57 rfl ?_
              refine dz_iload_n x.1 2 d_Model_readPiece_59 rfl rfl ?_
              refine dz_icmp_ge (tgt := 192) x.1 d_Model_readPiece_60 (by decide) (by omega) (by omega) (fun hc60 => ?_) (fun hc60 => by exfalso; omega)
              refine dz_goto (tgt := 32) x.1 d_Model_readPiece_192 (by decide) ?_
              refine dz_take 5 (ls' := [(0, .ref (b + 130)), (1, .int (dz_i (B + f))), (2, .int (dz_i (B + e))), (3, .int (dz_i (B + bg))), (4, .int (dz_i (B + p2)))]) rfl ?_
              exact ih p2 fu2 H3 nx rs J2 (by omega) (by omega) FJ2 MJ2 (by rw [← hS2, sp_pl_nu (Or.inl (by omega))])
            | succ k2 ih2 =>
              intro p2 fu2 H3 J2 hp2 hfu2 FJ2 MJ2 hS2
              by_cases hpe2 : p2 < e
              · by_cases hd2 : sp_dig (h p2) = 35
                · have hdn : sp_dg (h p2) = -1 := by unfold sp_dg; rw [if_pos hd2]
                  refine dz_iload x.1 4 d_Model_readPiece_57 rfl ?_
                  refine dz_iload_n x.1 2 d_Model_readPiece_59 rfl rfl ?_
                  refine dz_icmp_ge (tgt := 192) x.1 d_Model_readPiece_60 (by decide) (by omega) (by omega) (fun hc60 => by exfalso; omega) (fun hc60 => ?_)
                  refine dz_aload_n x.1 0 d_Model_readPiece_63 rfl rfl ?_
                  refine dz_aload_n x.1 0 d_Model_readPiece_64 rfl rfl ?_
                  refine dz_getr x.1 (ly_Model b) fl_Model_39 (lr_Model_15 b) d_Model_readPiece_65 ?_
                  refine dz_iload x.1 4 d_Model_readPiece_68 rfl ?_
                  refine dz_iald (w := (h p2)) x.1 (ly_MCells b) (by decide) (by omega) d_Model_readPiece_70 ((CI.fh FJ2).2.2 p2 (by omega) (by omega)) ?_
                  refine ly_callV (rest := []) x cl_Model_157 (c_Model_digitOf l D Dt b sz J2 (h p2) (CI.1.2.2 p2)) (by decide) (ly_Model b) rfl rfl rfl rfl (Nat.le_of_ble_eq_true rfl) d_Model_readPiece_71 (fun v I' hp71 => ?_)
                  obtain ⟨rfl, hp71I⟩ := hp71
                  have hp71I := hp71I.symm
                  subst hp71I
                  have hdr := sp_dg_rng (h p2)
                  show ly_V κ b sz J2 74 [(0, .ref (b + 130)), (1, .int (dz_i (B + f))), (2, .int (dz_i (B + e))), (3, .int (dz_i (B + bg))), (4, .int (dz_i (B + p2))), (5, .int (dz_i (h p)))] [.int (dz_i (sp_dg (h p2)))]
                  refine dz_if_lt (tgt := 192) x.1 d_Model_readPiece_74 (by decide) (by omega) (fun hc74 => ?_) (fun hc74 => by exfalso; omega)
                  refine dz_goto (tgt := 32) x.1 d_Model_readPiece_192 (by decide) ?_
                  refine dz_take 5 (ls' := [(0, .ref (b + 130)), (1, .int (dz_i (B + f))), (2, .int (dz_i (B + e))), (3, .int (dz_i (B + bg))), (4, .int (dz_i (B + p2)))]) rfl ?_
                  exact ih p2 fu2 H3 nx rs J2 (by omega) (by omega) FJ2 MJ2 (by rw [← hS2, sp_pl_nu (Or.inr hd2)])
                · have hdr2 := sp_dig_rng2 hd2
                  have hdn : sp_dg (h p2) = sp_dig (h p2) - 48 := by unfold sp_dg; rw [if_neg hd2]
                  have hst2 := sp_pl_step (h := h) (c := c) (S := S) (bg := bg) (e := e) (p := p2) (nu := true) (nx := nx) (rs := rs) hpe2 (k := fu2) (by omega)
                  have hrd2 : (sp_rd h c S bg e true nx rs p2) = ([sp_dig (h p2)], 1, true, nx, rs) := by unfold sp_rd; rw [if_pos ⟨rfl, hd2⟩]
                  rw [hrd2] at hst2
                  have hT2 := hlen
                  rw [← hS2, hst2] at hT2
                  simp only [List.length_append, List.length_cons, List.length_nil] at hT2
                  refine dz_iload x.1 4 d_Model_readPiece_57 rfl ?_
                  refine dz_iload_n x.1 2 d_Model_readPiece_59 rfl rfl ?_
                  refine dz_icmp_ge (tgt := 192) x.1 d_Model_readPiece_60 (by decide) (by omega) (by omega) (fun hc60 => by exfalso; omega) (fun hc60 => ?_)
                  refine dz_aload_n x.1 0 d_Model_readPiece_63 rfl rfl ?_
                  refine dz_aload_n x.1 0 d_Model_readPiece_64 rfl rfl ?_
                  refine dz_getr x.1 (ly_Model b) fl_Model_39 (lr_Model_15 b) d_Model_readPiece_65 ?_
                  refine dz_iload x.1 4 d_Model_readPiece_68 rfl ?_
                  refine dz_iald (w := (h p2)) x.1 (ly_MCells b) (by decide) (by omega) d_Model_readPiece_70 ((CI.fh FJ2).2.2 p2 (by omega) (by omega)) ?_
                  refine ly_callV (rest := []) x cl_Model_157 (c_Model_digitOf l D Dt b sz J2 (h p2) (CI.1.2.2 p2)) (by decide) (ly_Model b) rfl rfl rfl rfl (Nat.le_of_ble_eq_true rfl) d_Model_readPiece_71 (fun v I' hp71 => ?_)
                  obtain ⟨rfl, hp71I⟩ := hp71
                  have hp71I := hp71I.symm
                  subst hp71I
                  have hdr := sp_dg_rng (h p2)
                  show ly_V κ b sz J2 74 [(0, .ref (b + 130)), (1, .int (dz_i (B + f))), (2, .int (dz_i (B + e))), (3, .int (dz_i (B + bg))), (4, .int (dz_i (B + p2))), (5, .int (dz_i (h p)))] [.int (dz_i (sp_dg (h p2)))]
                  refine dz_if_lt (tgt := 192) x.1 d_Model_readPiece_74 (by decide) (by omega) (fun hc74 => by exfalso; omega) (fun hc74 => ?_)
                  refine dz_aload_n x.1 0 d_Model_readPiece_77 rfl rfl ?_
                  refine dz_bipush x.1 d_Model_readPiece_78 (by decide) ?_
                  refine dz_aload_n x.1 0 d_Model_readPiece_80 rfl rfl ?_
                  refine dz_aload_n x.1 0 d_Model_readPiece_81 rfl rfl ?_
                  refine dz_getr x.1 (ly_Model b) fl_Model_39 (lr_Model_15 b) d_Model_readPiece_82 ?_
                  refine dz_iload x.1 4 d_Model_readPiece_85 rfl ?_
                  refine dz_iald (w := (h p2)) x.1 (ly_MCells b) (by decide) (by omega) d_Model_readPiece_87 ((CI.fh FJ2).2.2 p2 (by omega) (by omega)) ?_
                  refine ly_callV (rest := [.int (dz_i 48), .ref (b + 130)]) x cl_Model_157 (c_Model_digitOf l D Dt b sz J2 (h p2) (CI.1.2.2 p2)) (by decide) (ly_Model b) rfl rfl rfl rfl (Nat.le_of_ble_eq_true rfl) d_Model_readPiece_88 (fun v I' hp88 => ?_)
                  obtain ⟨rfl, hp88I⟩ := hp88
                  have hp88I := hp88I.symm
                  subst hp88I
                  have hdr := sp_dg_rng (h p2)
                  show ly_V κ b sz J2 91 [(0, .ref (b + 130)), (1, .int (dz_i (B + f))), (2, .int (dz_i (B + e))), (3, .int (dz_i (B + bg))), (4, .int (dz_i (B + p2))), (5, .int (dz_i (h p)))] [.int (dz_i (sp_dg (h p2))), .int (dz_i 48), .ref (b + 130)]
                  refine dz_iadd (z := (sp_dg (h p2)) + 48) x.1 d_Model_readPiece_91 (by omega) ?_
                  refine dz_i2c x.1 d_Model_readPiece_92 (by omega) ?_
                  refine ly_callV (rest := []) x cl_Model_153 (c_Model_hear l D Dt b sz J2 (H3) nx rs MJ2 (by omega) (sp_dg (h p2) + 48) (by omega)) (by decide) (ly_Model b) rfl rfl rfl rfl (Nat.le_of_ble_eq_true rfl) d_Model_readPiece_93 (fun v J93 hp93 => ?_)
                  obtain ⟨rfl, hfJ93, MJ93⟩ := hp93
                  have FJ93 : sp_fh b I J93 := FJ2.tr hfJ93
                  show ly_V κ b sz J93 96 [(0, .ref (b + 130)), (1, .int (dz_i (B + f))), (2, .int (dz_i (B + e))), (3, .int (dz_i (B + bg))), (4, .int (dz_i (B + p2))), (5, .int (dz_i (h p)))] []
                  refine dz_iinc (z := B + p2 + 1) (ls' := [(0, .ref (b + 130)), (1, .int (dz_i (B + f))), (2, .int (dz_i (B + e))), (3, .int (dz_i (B + bg))), (4, .int (dz_i (B + p2 + 1))), (5, .int (dz_i (h p)))]) x.1 4 d_Model_readPiece_96 rfl hN (by decide) (by omega) rfl ?_
                  refine dz_goto (tgt := 57) x.1 d_Model_readPiece_99 (by decide) ?_
                  rw [hdn, show sp_dig (h p2) - 48 + 48 = sp_dig (h p2) by omega, sp_pc_d (by omega), sp_nx_d (by omega)] at MJ93
                  have h9 := ih2 (p2 + 1) (fu2 - 1) _ J93 (by omega) (by omega) FJ93 MJ93 (by rw [← hS2, hst2, List.append_assoc])
                  rw [show B + (p2 + 1) = B + p2 + 1 by omega] at h9
                  exact h9
              · have hnn : e ≤ p2 := by omega
                refine dz_iload x.1 4 d_Model_readPiece_57 rfl ?_
                refine dz_iload_n x.1 2 d_Model_readPiece_59 rfl rfl ?_
                refine dz_icmp_ge (tgt := 192) x.1 d_Model_readPiece_60 (by decide) (by omega) (by omega) (fun hc60 => ?_) (fun hc60 => by exfalso; omega)
                refine dz_goto (tgt := 32) x.1 d_Model_readPiece_192 (by decide) ?_
                refine dz_take 5 (ls' := [(0, .ref (b + 130)), (1, .int (dz_i (B + f))), (2, .int (dz_i (B + e))), (3, .int (dz_i (B + bg))), (4, .int (dz_i (B + p2)))]) rfl ?_
                exact ih p2 fu2 H3 nx rs J2 (by omega) (by omega) FJ2 MJ2 (by rw [← hS2, sp_pl_nu (Or.inl hnn)])
          refine dz_iload x.1 4 d_Model_readPiece_32 rfl ?_
          refine dz_iload_n x.1 2 d_Model_readPiece_34 rfl rfl ?_
          refine dz_icmp_ge (tgt := 195) x.1 d_Model_readPiece_35 (by decide) (by omega) (by omega) (fun hc35 => by exfalso; omega) (fun hc35 => ?_)
          refine dz_aload_n x.1 0 d_Model_readPiece_38 rfl rfl ?_
          refine dz_getr x.1 (ly_Model b) fl_Model_39 (lr_Model_15 b) d_Model_readPiece_39 ?_
          refine dz_iload x.1 4 d_Model_readPiece_42 rfl ?_
          refine dz_iald (w := (h p)) x.1 (ly_MCells b) (by decide) (by omega) d_Model_readPiece_44 ((CI.fh FJ).2.2 p (by omega) (by omega)) ?_
          refine dz_istore (ls' := [(0, .ref (b + 130)), (1, .int (dz_i (B + f))), (2, .int (dz_i (B + e))), (3, .int (dz_i (B + bg))), (4, .int (dz_i (B + p))), (5, .int (dz_i (h p)))]) x.1 d_Model_readPiece_45 hN (by decide) rfl ?_
          refine dz_iload x.1 5 d_Model_readPiece_47 rfl ?_
          refine dz_bipush x.1 d_Model_readPiece_49 (by decide) ?_
          refine dz_icmp_ne (tgt := 102) x.1 d_Model_readPiece_51 (by decide) (by omega) (by omega) (fun hc51 => by exfalso; omega) (fun hc51 => ?_)
          refine dz_iinc (z := B + p + 1) (ls' := [(0, .ref (b + 130)), (1, .int (dz_i (B + f))), (2, .int (dz_i (B + e))), (3, .int (dz_i (B + bg))), (4, .int (dz_i (B + p + 1))), (5, .int (dz_i (h p)))]) x.1 4 d_Model_readPiece_54 rfl hN (by decide) (by omega) rfl ?_
          have h9 := loopd (e - (p + 1)).toNat (p + 1) (fu - 1) H2 J (by omega) (by omega) FJ MJ (by rw [← hS, hst]; rfl)
          rw [show B + (p + 1) = B + p + 1 by omega] at h9
          exact h9
        · by_cases h48 : h p = 48
          · have hrd : (sp_rd h c S bg e false nx rs p) = ([], 1, false, nx, rs) := by unfold sp_rd; rw [if_neg h00, if_neg h60, if_pos h48]
            rw [hrd] at hst hrb
            dsimp only at hst hrb
            refine dz_iload x.1 4 d_Model_readPiece_32 rfl ?_
            refine dz_iload_n x.1 2 d_Model_readPiece_34 rfl rfl ?_
            refine dz_icmp_ge (tgt := 195) x.1 d_Model_readPiece_35 (by decide) (by omega) (by omega) (fun hc35 => by exfalso; omega) (fun hc35 => ?_)
            refine dz_aload_n x.1 0 d_Model_readPiece_38 rfl rfl ?_
            refine dz_getr x.1 (ly_Model b) fl_Model_39 (lr_Model_15 b) d_Model_readPiece_39 ?_
            refine dz_iload x.1 4 d_Model_readPiece_42 rfl ?_
            refine dz_iald (w := (h p)) x.1 (ly_MCells b) (by decide) (by omega) d_Model_readPiece_44 ((CI.fh FJ).2.2 p (by omega) (by omega)) ?_
            refine dz_istore (ls' := [(0, .ref (b + 130)), (1, .int (dz_i (B + f))), (2, .int (dz_i (B + e))), (3, .int (dz_i (B + bg))), (4, .int (dz_i (B + p))), (5, .int (dz_i (h p)))]) x.1 d_Model_readPiece_45 hN (by decide) rfl ?_
            refine dz_iload x.1 5 d_Model_readPiece_47 rfl ?_
            refine dz_bipush x.1 d_Model_readPiece_49 (by decide) ?_
            refine dz_icmp_ne (tgt := 102) x.1 d_Model_readPiece_51 (by decide) (by omega) (by omega) (fun hc51 => ?_) (fun hc51 => by exfalso; omega)
            refine dz_iload x.1 5 d_Model_readPiece_102 rfl ?_
            refine dz_bipush x.1 d_Model_readPiece_104 (by decide) ?_
            refine dz_icmp_ne (tgt := 115) x.1 d_Model_readPiece_106 (by decide) (by omega) (by omega) (fun hc106 => by exfalso; omega) (fun hc106 => ?_)
            refine dz_iinc (z := B + p + 1) (ls' := [(0, .ref (b + 130)), (1, .int (dz_i (B + f))), (2, .int (dz_i (B + e))), (3, .int (dz_i (B + bg))), (4, .int (dz_i (B + p + 1))), (5, .int (dz_i (h p)))]) x.1 4 d_Model_readPiece_109 rfl hN (by decide) (by omega) rfl ?_
            refine dz_goto (tgt := 192) x.1 d_Model_readPiece_112 (by decide) ?_
            refine dz_goto (tgt := 32) x.1 d_Model_readPiece_192 (by decide) ?_
            refine dz_take 5 (ls' := [(0, .ref (b + 130)), (1, .int (dz_i (B + f))), (2, .int (dz_i (B + e))), (3, .int (dz_i (B + bg))), (4, .int (dz_i (B + p + 1)))]) rfl ?_
            have h9 := ih (p + 1) (fu - 1) H2 nx rs J (by omega) (by omega) FJ MJ (by rw [← hS, hst]; rfl)
            rw [show B + (p + 1) = B + p + 1 by omega] at h9
            exact h9
          · by_cases h32 : h p = 32
            · have hcs := sp_cs_ep CI.1 hf.1 (p := p) (by omega) (by omega)
              rw [← he] at hcs
              obtain ⟨cs, hcs9⟩ : ∃ cs, cs = sp_cs h p := ⟨_, rfl⟩
              rw [← hcs9] at hcs
              have hcs1 := hcs.2.2.1 h32
              have k152 : ly_V κ b sz J 152 [(0, .ref (b + 130)), (1, .int (dz_i (B + f))), (2, .int (dz_i (B + e))), (3, .int (dz_i (B + bg))), (4, .int (dz_i (B + cs))), (5, .int (dz_i (h p))), (6, .int (dz_i (cs - p)))] [] := by
                refine dz_aload_n x.1 0 d_Model_readPiece_152 rfl rfl ?_
                refine dz_iload x.1 6 d_Model_readPiece_153 rfl ?_
                refine dz_iconst x.1 d_Model_readPiece_155 ?_
                refine dz_icmp_le (tgt := 163) x.1 d_Model_readPiece_156 (by decide) (by omega) (by omega) (fun hc156 => ?_) (fun hc156 => ?_)
                · refine dz_aload_n x.1 0 d_Model_readPiece_163 rfl rfl ?_
                  refine dz_geti (z := (sp_tl nx rs)) x.1 (ly_Model b) fl_Model_139 d_Model_readPiece_164 MJ.2.2.2.2 ?_
                  refine dz_iconst x.1 d_Model_readPiece_167 ?_
                  refine dz_icmp_ne (tgt := 175) x.1 d_Model_readPiece_168 (by decide) (by omega) (by omega) (fun hc168 => ?_) (fun hc168 => ?_)
                  · refine dz_iconst x.1 d_Model_readPiece_175 ?_
                    refine dz_puti x.1 (ly_Model b) fl_Model_139 fp_Model_28 d_Model_readPiece_176 ?_
                    refine dz_goto (tgt := 192) x.1 d_Model_readPiece_179 (by decide) ?_
                    refine dz_goto (tgt := 32) x.1 d_Model_readPiece_192 (by decide) ?_
                    refine dz_take 5 (ls' := [(0, .ref (b + 130)), (1, .int (dz_i (B + f))), (2, .int (dz_i (B + e))), (3, .int (dz_i (B + bg))), (4, .int (dz_i (B + cs)))]) rfl ?_
                    have hrd : (sp_rd h c S bg e false nx rs p) = ([], cs - p, false, (if cs - p = 1 then true else nx), (if cs - p = 1 then rs else true)) := by
                      unfold sp_rd; rw [if_neg h00, if_neg h60, if_neg h48, if_pos h32, ← hcs9]
                      split <;> rfl
                    rw [hrd] at hst hrb
                    dsimp only at hst hrb
                    have htt : (1 : Int) = sp_tl (if cs - p = 1 then true else nx) (if cs - p = 1 then rs else true) := by
                      by_cases hz : cs - p = 1
                      · rw [if_pos hz, if_pos hz]
                        cases rs <;> cases nx <;> simp only [sp_tl] at * <;> (first | rfl | (exfalso; omega) | (exfalso; simp at *; done) | (exfalso; simp at *; omega))
                      · rw [if_neg hz, if_neg hz]
                        first
                          | (exfalso; omega)
                          | (unfold sp_tl; rw [if_pos rfl])
                    have h9 := ih (p + (cs - p)) (fu - 1) H2 _ _ _ (by omega) (by omega) (FJ.tall _) (MJ.tall htt) (by rw [← hS, hst]; rfl)
                    rw [show p + (cs - p) = cs by omega] at h9
                    exact h9
                  · refine dz_iconst x.1 d_Model_readPiece_171 ?_
                    refine dz_goto (tgt := 176) x.1 d_Model_readPiece_172 (by decide) ?_
                    refine dz_puti x.1 (ly_Model b) fl_Model_139 fp_Model_28 d_Model_readPiece_176 ?_
                    refine dz_goto (tgt := 192) x.1 d_Model_readPiece_179 (by decide) ?_
                    refine dz_goto (tgt := 32) x.1 d_Model_readPiece_192 (by decide) ?_
                    refine dz_take 5 (ls' := [(0, .ref (b + 130)), (1, .int (dz_i (B + f))), (2, .int (dz_i (B + e))), (3, .int (dz_i (B + bg))), (4, .int (dz_i (B + cs)))]) rfl ?_
                    have hrd : (sp_rd h c S bg e false nx rs p) = ([], cs - p, false, (if cs - p = 1 then true else nx), (if cs - p = 1 then rs else true)) := by
                      unfold sp_rd; rw [if_neg h00, if_neg h60, if_neg h48, if_pos h32, ← hcs9]
                      split <;> rfl
                    rw [hrd] at hst hrb
                    dsimp only at hst hrb
                    have htt : (2 : Int) = sp_tl (if cs - p = 1 then true else nx) (if cs - p = 1 then rs else true) := by
                      by_cases hz : cs - p = 1
                      · rw [if_pos hz, if_pos hz]
                        cases rs <;> cases nx <;> simp only [sp_tl] at * <;> (first | rfl | (exfalso; omega) | (exfalso; simp at *; done) | (exfalso; simp at *; omega))
                      · rw [if_neg hz, if_neg hz]
                        first
                          | (exfalso; omega)
                          | (unfold sp_tl; rw [if_pos rfl])
                    have h9 := ih (p + (cs - p)) (fu - 1) H2 _ _ _ (by omega) (by omega) (FJ.tall _) (MJ.tall htt) (by rw [← hS, hst]; rfl)
                    rw [show p + (cs - p) = cs by omega] at h9
                    exact h9
                · refine dz_iconst x.1 d_Model_readPiece_159 ?_
                  refine dz_goto (tgt := 176) x.1 d_Model_readPiece_160 (by decide) ?_
                  refine dz_puti x.1 (ly_Model b) fl_Model_139 fp_Model_28 d_Model_readPiece_176 ?_
                  refine dz_goto (tgt := 192) x.1 d_Model_readPiece_179 (by decide) ?_
                  refine dz_goto (tgt := 32) x.1 d_Model_readPiece_192 (by decide) ?_
                  refine dz_take 5 (ls' := [(0, .ref (b + 130)), (1, .int (dz_i (B + f))), (2, .int (dz_i (B + e))), (3, .int (dz_i (B + bg))), (4, .int (dz_i (B + cs)))]) rfl ?_
                  have hrd : (sp_rd h c S bg e false nx rs p) = ([], cs - p, false, (if cs - p = 1 then true else nx), (if cs - p = 1 then rs else true)) := by
                    unfold sp_rd; rw [if_neg h00, if_neg h60, if_neg h48, if_pos h32, ← hcs9]
                    split <;> rfl
                  rw [hrd] at hst hrb
                  dsimp only at hst hrb
                  have htt : (2 : Int) = sp_tl (if cs - p = 1 then true else nx) (if cs - p = 1 then rs else true) := by
                    by_cases hz : cs - p = 1
                    · rw [if_pos hz, if_pos hz]
                      cases rs <;> cases nx <;> simp only [sp_tl] at * <;> (first | rfl | (exfalso; omega) | (exfalso; simp at *; done) | (exfalso; simp at *; omega))
                    · rw [if_neg hz, if_neg hz]
                      first
                        | (exfalso; omega)
                        | (unfold sp_tl; rw [if_pos rfl])
                  have h9 := ih (p + (cs - p)) (fu - 1) H2 _ _ _ (by omega) (by omega) (FJ.tall _) (MJ.tall htt) (by rw [← hS, hst]; rfl)
                  rw [show p + (cs - p) = cs by omega] at h9
                  exact h9
              have loopn : ∀ (k2 : Nat) (i : Int), (p ≤ i ∧ i ≤ cs ∧ cs - i ≤ (k2 : Int)) → ly_V κ b sz J 125 [(0, .ref (b + 130)), (1, .int (dz_i (B + f))), (2, .int (dz_i (B + e))), (3, .int (dz_i (B + bg))), (4, .int (dz_i (B + i))), (5, .int (dz_i (h p))), (6, .int (dz_i (i - p)))] [] := by
                intro k2
                induction k2 with
                | zero =>
                  intro i hi
                  refine dz_iload x.1 4 d_Model_readPiece_125 rfl ?_
                  refine dz_iload_n x.1 2 d_Model_readPiece_127 rfl rfl ?_
                  refine dz_icmp_ge (tgt := 152) x.1 d_Model_readPiece_128 (by decide) (by omega) (by omega) (fun hc128 => ?_) (fun hc128 => ?_)
                  · have ei : i = cs := by
                      by_cases z : i < cs
                      · exfalso
                        have := hcs.2.2.2.1 i (by omega) z
                        omega
                      · omega
                    subst ei
                    exact k152
                  · have hhi := CI.1.2.2 i
                    refine dz_aload_n x.1 0 d_Model_readPiece_131 rfl rfl ?_
                    refine dz_getr x.1 (ly_Model b) fl_Model_39 (lr_Model_15 b) d_Model_readPiece_132 ?_
                    refine dz_iload x.1 4 d_Model_readPiece_135 rfl ?_
                    refine dz_iald (w := (h i)) x.1 (ly_MCells b) (by decide) (by omega) d_Model_readPiece_137 ((CI.fh FJ).2.2 i (by omega) (by omega)) ?_
                    refine dz_bipush x.1 d_Model_readPiece_138 (by decide) ?_
                    refine dz_icmp_ne (tgt := 152) x.1 d_Model_readPiece_140 (by decide) (by omega) (by omega) (fun hc140 => ?_) (fun hc140 => ?_)
                    · have ei : i = cs := by
                        by_cases z : i < cs
                        · exfalso
                          have := hcs.2.2.2.1 i (by omega) z
                          omega
                        · omega
                      subst ei
                      exact k152
                    · refine dz_iinc (z := B + i + 1) (ls' := [(0, .ref (b + 130)), (1, .int (dz_i (B + f))), (2, .int (dz_i (B + e))), (3, .int (dz_i (B + bg))), (4, .int (dz_i (B + i + 1))), (5, .int (dz_i (h p))), (6, .int (dz_i (i - p)))]) x.1 4 d_Model_readPiece_143 rfl hN (by decide) (by omega) rfl ?_
                      refine dz_iinc (z := i - p + 1) (ls' := [(0, .ref (b + 130)), (1, .int (dz_i (B + f))), (2, .int (dz_i (B + e))), (3, .int (dz_i (B + bg))), (4, .int (dz_i (B + i + 1))), (5, .int (dz_i (h p))), (6, .int (dz_i (i - p + 1)))]) x.1 6 d_Model_readPiece_146 rfl hN (by decide) (by omega) rfl ?_
                      refine dz_goto (tgt := 125) x.1 d_Model_readPiece_149 (by decide) ?_
                      exfalso
                      have ei : i = cs := by omega
                      subst ei
                      exact hcs.2.2.2.2 (by omega) hc140
                | succ k2 ih2 =>
                  intro i hi
                  refine dz_iload x.1 4 d_Model_readPiece_125 rfl ?_
                  refine dz_iload_n x.1 2 d_Model_readPiece_127 rfl rfl ?_
                  refine dz_icmp_ge (tgt := 152) x.1 d_Model_readPiece_128 (by decide) (by omega) (by omega) (fun hc128 => ?_) (fun hc128 => ?_)
                  · have ei : i = cs := by
                      by_cases z : i < cs
                      · exfalso
                        have := hcs.2.2.2.1 i (by omega) z
                        omega
                      · omega
                    subst ei
                    exact k152
                  · have hhi := CI.1.2.2 i
                    refine dz_aload_n x.1 0 d_Model_readPiece_131 rfl rfl ?_
                    refine dz_getr x.1 (ly_Model b) fl_Model_39 (lr_Model_15 b) d_Model_readPiece_132 ?_
                    refine dz_iload x.1 4 d_Model_readPiece_135 rfl ?_
                    refine dz_iald (w := (h i)) x.1 (ly_MCells b) (by decide) (by omega) d_Model_readPiece_137 ((CI.fh FJ).2.2 i (by omega) (by omega)) ?_
                    refine dz_bipush x.1 d_Model_readPiece_138 (by decide) ?_
                    refine dz_icmp_ne (tgt := 152) x.1 d_Model_readPiece_140 (by decide) (by omega) (by omega) (fun hc140 => ?_) (fun hc140 => ?_)
                    · have ei : i = cs := by
                        by_cases z : i < cs
                        · exfalso
                          have := hcs.2.2.2.1 i (by omega) z
                          omega
                        · omega
                      subst ei
                      exact k152
                    · refine dz_iinc (z := B + i + 1) (ls' := [(0, .ref (b + 130)), (1, .int (dz_i (B + f))), (2, .int (dz_i (B + e))), (3, .int (dz_i (B + bg))), (4, .int (dz_i (B + i + 1))), (5, .int (dz_i (h p))), (6, .int (dz_i (i - p)))]) x.1 4 d_Model_readPiece_143 rfl hN (by decide) (by omega) rfl ?_
                      refine dz_iinc (z := i - p + 1) (ls' := [(0, .ref (b + 130)), (1, .int (dz_i (B + f))), (2, .int (dz_i (B + e))), (3, .int (dz_i (B + bg))), (4, .int (dz_i (B + i + 1))), (5, .int (dz_i (h p))), (6, .int (dz_i (i - p + 1)))]) x.1 6 d_Model_readPiece_146 rfl hN (by decide) (by omega) rfl ?_
                      refine dz_goto (tgt := 125) x.1 d_Model_readPiece_149 (by decide) ?_
                      have h9 := ih2 (i + 1) (by first | omega | (have : ¬ i = cs := (fun z => hcs.2.2.2.2 (by omega) (by rw [← z]; exact hc140)); omega))
                      rw [show i + 1 - p = i - p + 1 by omega, show B + (i + 1) = B + i + 1 by omega] at h9
                      exact h9
              refine dz_iload x.1 4 d_Model_readPiece_32 rfl ?_
              refine dz_iload_n x.1 2 d_Model_readPiece_34 rfl rfl ?_
              refine dz_icmp_ge (tgt := 195) x.1 d_Model_readPiece_35 (by decide) (by omega) (by omega) (fun hc35 => by exfalso; omega) (fun hc35 => ?_)
              refine dz_aload_n x.1 0 d_Model_readPiece_38 rfl rfl ?_
              refine dz_getr x.1 (ly_Model b) fl_Model_39 (lr_Model_15 b) d_Model_readPiece_39 ?_
              refine dz_iload x.1 4 d_Model_readPiece_42 rfl ?_
              refine dz_iald (w := (h p)) x.1 (ly_MCells b) (by decide) (by omega) d_Model_readPiece_44 ((CI.fh FJ).2.2 p (by omega) (by omega)) ?_
              refine dz_istore (ls' := [(0, .ref (b + 130)), (1, .int (dz_i (B + f))), (2, .int (dz_i (B + e))), (3, .int (dz_i (B + bg))), (4, .int (dz_i (B + p))), (5, .int (dz_i (h p)))]) x.1 d_Model_readPiece_45 hN (by decide) rfl ?_
              refine dz_iload x.1 5 d_Model_readPiece_47 rfl ?_
              refine dz_bipush x.1 d_Model_readPiece_49 (by decide) ?_
              refine dz_icmp_ne (tgt := 102) x.1 d_Model_readPiece_51 (by decide) (by omega) (by omega) (fun hc51 => ?_) (fun hc51 => by exfalso; omega)
              refine dz_iload x.1 5 d_Model_readPiece_102 rfl ?_
              refine dz_bipush x.1 d_Model_readPiece_104 (by decide) ?_
              refine dz_icmp_ne (tgt := 115) x.1 d_Model_readPiece_106 (by decide) (by omega) (by omega) (fun hc106 => ?_) (fun hc106 => by exfalso; omega)
              refine dz_iload x.1 5 d_Model_readPiece_115 rfl ?_
              refine dz_bipush x.1 d_Model_readPiece_117 (by decide) ?_
              refine dz_icmp_ne (tgt := 182) x.1 d_Model_readPiece_119 (by decide) (by omega) (by omega) (fun hc119 => by exfalso; omega) (fun hc119 => ?_)
              refine dz_iconst x.1 d_Model_readPiece_122 ?_
              refine dz_istore (ls' := [(0, .ref (b + 130)), (1, .int (dz_i (B + f))), (2, .int (dz_i (B + e))), (3, .int (dz_i (B + bg))), (4, .int (dz_i (B + p))), (5, .int (dz_i (h p))), (6, .int (dz_i 0))]) x.1 d_Model_readPiece_123 hN (by decide) rfl ?_
              have h9 := loopn (cs - p).toNat p (by omega)
              rw [show p - p = 0 by omega] at h9
              exact h9
            · have hrd := sp_rd_ro (c := c) (S := S) (bg := bg) (e := e) (nx := nx) (rs := rs) h00 h60 h48 h32
              rw [hrd] at hst hrb
              dsimp only at hst hrb
              have hT2 := hlen
              rw [← hS, hst] at hT2
              rw [← List.append_assoc, List.length_append] at hT2
              refine dz_iload x.1 4 d_Model_readPiece_32 rfl ?_
              refine dz_iload_n x.1 2 d_Model_readPiece_34 rfl rfl ?_
              refine dz_icmp_ge (tgt := 195) x.1 d_Model_readPiece_35 (by decide) (by omega) (by omega) (fun hc35 => by exfalso; omega) (fun hc35 => ?_)
              refine dz_aload_n x.1 0 d_Model_readPiece_38 rfl rfl ?_
              refine dz_getr x.1 (ly_Model b) fl_Model_39 (lr_Model_15 b) d_Model_readPiece_39 ?_
              refine dz_iload x.1 4 d_Model_readPiece_42 rfl ?_
              refine dz_iald (w := (h p)) x.1 (ly_MCells b) (by decide) (by omega) d_Model_readPiece_44 ((CI.fh FJ).2.2 p (by omega) (by omega)) ?_
              refine dz_istore (ls' := [(0, .ref (b + 130)), (1, .int (dz_i (B + f))), (2, .int (dz_i (B + e))), (3, .int (dz_i (B + bg))), (4, .int (dz_i (B + p))), (5, .int (dz_i (h p)))]) x.1 d_Model_readPiece_45 hN (by decide) rfl ?_
              refine dz_iload x.1 5 d_Model_readPiece_47 rfl ?_
              refine dz_bipush x.1 d_Model_readPiece_49 (by decide) ?_
              refine dz_icmp_ne (tgt := 102) x.1 d_Model_readPiece_51 (by decide) (by omega) (by omega) (fun hc51 => ?_) (fun hc51 => by exfalso; omega)
              refine dz_iload x.1 5 d_Model_readPiece_102 rfl ?_
              refine dz_bipush x.1 d_Model_readPiece_104 (by decide) ?_
              refine dz_icmp_ne (tgt := 115) x.1 d_Model_readPiece_106 (by decide) (by omega) (by omega) (fun hc106 => ?_) (fun hc106 => by exfalso; omega)
              refine dz_iload x.1 5 d_Model_readPiece_115 rfl ?_
              refine dz_bipush x.1 d_Model_readPiece_117 (by decide) ?_
              refine dz_icmp_ne (tgt := 182) x.1 d_Model_readPiece_119 (by decide) (by omega) (by omega) (fun hc119 => ?_) (fun hc119 => by exfalso; omega)
              refine dz_aload_n x.1 0 d_Model_readPiece_182 rfl rfl ?_
              refine dz_iload x.1 4 d_Model_readPiece_183 rfl ?_
              refine dz_iload_n x.1 3 d_Model_readPiece_185 rfl rfl ?_
              refine dz_iload_n x.1 2 d_Model_readPiece_186 rfl rfl ?_
              refine ly_callV (rest := []) x cl_Model_160 (c_Model_readOne l D Dt b sz J c S (RI.fh FJ) B m h (CI.fh FJ) H2 nx rs MJ f e p bg (by omega) he (by omega) (by omega) (Nat.le_trans (Nat.le_add_right _ _) hT2)) (by decide) (ly_Model b) rfl rfl rfl rfl (Nat.le_of_ble_eq_true rfl) d_Model_readPiece_187 (fun v J187 hp187 => ?_)
              obtain ⟨rfl, hfJ187, MJ187⟩ := hp187
              have FJ187 : sp_fh b I J187 := FJ.tr hfJ187
              show ly_V κ b sz J187 190 [(0, .ref (b + 130)), (1, .int (dz_i (B + f))), (2, .int (dz_i (B + e))), (3, .int (dz_i (B + bg))), (4, .int (dz_i (B + p))), (5, .int (dz_i (h p)))] [.int (dz_i (B + p + (sp_ro h c S bg e nx rs p).2.1))]
              refine dz_istore (ls' := [(0, .ref (b + 130)), (1, .int (dz_i (B + f))), (2, .int (dz_i (B + e))), (3, .int (dz_i (B + bg))), (4, .int (dz_i (B + p + (sp_ro h c S bg e nx rs p).2.1))), (5, .int (dz_i (h p)))]) x.1 d_Model_readPiece_190 hN (by decide) rfl ?_
              refine dz_goto (tgt := 32) x.1 d_Model_readPiece_192 (by decide) ?_
              refine dz_take 5 (ls' := [(0, .ref (b + 130)), (1, .int (dz_i (B + f))), (2, .int (dz_i (B + e))), (3, .int (dz_i (B + bg))), (4, .int (dz_i (B + p + (sp_ro h c S bg e nx rs p).2.1)))]) rfl ?_
              have h9 := ih (p + (sp_ro h c S bg e nx rs p).2.1) (fu - 1) _ _ rs J187 (by omega) (by omega) FJ187 MJ187 (by rw [← hS, hst, List.append_assoc])
              rw [← Int.add_assoc] at h9
              exact h9
      · have hnn : e ≤ p := by omega
        refine dz_iload x.1 4 d_Model_readPiece_32 rfl ?_
        refine dz_iload_n x.1 2 d_Model_readPiece_34 rfl rfl ?_
        refine dz_icmp_ge (tgt := 195) x.1 d_Model_readPiece_35 (by decide) (by omega) (by omega) (fun hc35 => ?_) (fun hc35 => by exfalso; omega)
        exact ly_vret x d_Model_readPiece_195 ⟨rfl, FJ, nx, rs, by rw [sp_pl_nil (by omega), List.append_nil] at hS; rw [← hS]; exact MJ⟩
  have k24 : ly_V κ b sz I 24 [(0, .ref (b + 130)), (1, .int (dz_i (B + f))), (2, .int (dz_i (B + e))), (3, .int (dz_i (B + bg)))] [] := by
    refine dz_aload_n x.1 0 d_Model_readPiece_24 rfl rfl ?_
    refine dz_iconst x.1 d_Model_readPiece_25 ?_
    refine dz_puti x.1 (ly_Model b) fl_Model_139 fp_Model_28 d_Model_readPiece_26 ?_
    refine dz_iload_n x.1 1 d_Model_readPiece_29 rfl rfl ?_
    refine dz_istore (ls' := [(0, .ref (b + 130)), (1, .int (dz_i (B + f))), (2, .int (dz_i (B + e))), (3, .int (dz_i (B + bg))), (4, .int (dz_i (B + f)))]) x.1 d_Model_readPiece_30 hN (by decide) rfl ?_
    exact loop (e - f).toNat f 300 H false false _ (by omega) (by omega) (sp_fh.rf.tall _) (HI.tall rfl) (by rw [hpi])
  have loop0 : ∀ (k2 : Nat) (i : Int), (f ≤ i ∧ i ≤ bg ∧ bg - i ≤ (k2 : Int)) → ly_V κ b sz I 2 [(0, .ref (b + 130)), (1, .int (dz_i (B + f))), (2, .int (dz_i (B + e))), (3, .int (dz_i (B + i)))] [] := by
    intro k2
    induction k2 with
    | zero =>
      intro i hi
      refine dz_iload_n x.1 3 d_Model_readPiece_2 rfl rfl ?_
      refine dz_iload_n x.1 2 d_Model_readPiece_3 rfl rfl ?_
      refine dz_icmp_ge (tgt := 24) x.1 d_Model_readPiece_4 (by decide) (by omega) (by omega) (fun hc4 => ?_) (fun hc4 => ?_)
      · have ei : i = bg := by
          by_cases z : i < bg
          · exfalso
            have := hcs0.2.2.2.1 i (by omega) z
            omega
          · omega
        subst ei
        exact k24
      · have hhi := CI.1.2.2 i
        refine dz_aload_n x.1 0 d_Model_readPiece_7 rfl rfl ?_
        refine dz_getr x.1 (ly_Model b) fl_Model_39 (lr_Model_15 b) d_Model_readPiece_8 ?_
        refine dz_iload_n x.1 3 d_Model_readPiece_11 rfl rfl ?_
        refine dz_iald (w := (h i)) x.1 (ly_MCells b) (by decide) (by omega) d_Model_readPiece_12 (CI.2.2 i (by omega) (by omega)) ?_
        refine dz_bipush x.1 d_Model_readPiece_13 (by decide) ?_
        refine dz_icmp_ne (tgt := 24) x.1 d_Model_readPiece_15 (by decide) (by omega) (by omega) (fun hc15 => ?_) (fun hc15 => ?_)
        · have ei : i = bg := by
            by_cases z : i < bg
            · exfalso
              have := hcs0.2.2.2.1 i (by omega) z
              omega
            · omega
          subst ei
          exact k24
        · refine dz_iinc (z := B + i + 1) (ls' := [(0, .ref (b + 130)), (1, .int (dz_i (B + f))), (2, .int (dz_i (B + e))), (3, .int (dz_i (B + i + 1)))]) x.1 3 d_Model_readPiece_18 rfl hN (by decide) (by omega) rfl ?_
          refine dz_goto (tgt := 2) x.1 d_Model_readPiece_21 (by decide) ?_
          exfalso
          have ei : i = bg := by omega
          subst ei
          exact hcs0.2.2.2.2 (by omega) hc15
    | succ k2 ih2 =>
      intro i hi
      refine dz_iload_n x.1 3 d_Model_readPiece_2 rfl rfl ?_
      refine dz_iload_n x.1 2 d_Model_readPiece_3 rfl rfl ?_
      refine dz_icmp_ge (tgt := 24) x.1 d_Model_readPiece_4 (by decide) (by omega) (by omega) (fun hc4 => ?_) (fun hc4 => ?_)
      · have ei : i = bg := by
          by_cases z : i < bg
          · exfalso
            have := hcs0.2.2.2.1 i (by omega) z
            omega
          · omega
        subst ei
        exact k24
      · have hhi := CI.1.2.2 i
        refine dz_aload_n x.1 0 d_Model_readPiece_7 rfl rfl ?_
        refine dz_getr x.1 (ly_Model b) fl_Model_39 (lr_Model_15 b) d_Model_readPiece_8 ?_
        refine dz_iload_n x.1 3 d_Model_readPiece_11 rfl rfl ?_
        refine dz_iald (w := (h i)) x.1 (ly_MCells b) (by decide) (by omega) d_Model_readPiece_12 (CI.2.2 i (by omega) (by omega)) ?_
        refine dz_bipush x.1 d_Model_readPiece_13 (by decide) ?_
        refine dz_icmp_ne (tgt := 24) x.1 d_Model_readPiece_15 (by decide) (by omega) (by omega) (fun hc15 => ?_) (fun hc15 => ?_)
        · have ei : i = bg := by
            by_cases z : i < bg
            · exfalso
              have := hcs0.2.2.2.1 i (by omega) z
              omega
            · omega
          subst ei
          exact k24
        · refine dz_iinc (z := B + i + 1) (ls' := [(0, .ref (b + 130)), (1, .int (dz_i (B + f))), (2, .int (dz_i (B + e))), (3, .int (dz_i (B + i + 1)))]) x.1 3 d_Model_readPiece_18 rfl hN (by decide) (by omega) rfl ?_
          refine dz_goto (tgt := 2) x.1 d_Model_readPiece_21 (by decide) ?_
          have h9 := ih2 (i + 1) (by have : ¬ i = bg := (fun z => hcs0.2.2.2.2 (by omega) (by rw [← z]; exact hc15)); omega)
          rw [show B + (i + 1) = B + i + 1 by omega] at h9
          exact h9
  show ly_V κ b sz I 0 [(0, .ref (b + 130)), (1, .int (dz_i (B + f))), (2, .int (dz_i (B + e)))] []
  refine dz_iload_n x.1 1 d_Model_readPiece_0 rfl rfl ?_
  refine dz_istore_n (ls' := [(0, .ref (b + 130)), (1, .int (dz_i (B + f))), (2, .int (dz_i (B + e))), (3, .int (dz_i (B + f)))]) x.1 d_Model_readPiece_1 rfl hN (by decide) rfl ?_
  exact loop0 (bg - f).toNat f (by omega)
