section lw_loop
variable {κ : dz_Kx} {l : Launch} {D : va_G} {Dt : Nat → ClassId} {b b0 L : Nat} {xs : Nat → Int32} {W T : Int}
set_option maxRecDepth 100000 in
set_option maxHeartbeats 4000000 in
theorem w_loop (hst9 : l.stackTraces = false) (x : dz_Am κ b_Law_law R_Law ∧ True) (dd : dz_Dd κ l D Dt 7) (rm : dz_Rm κ 15 601024 7293000) (sc : dz_Sc κ b0 L xs) (hL : L ≤ 2050) (C0 S0 : Nat) (hC0 : C0 ≤ 200 ∧ S0 ≤ 20000)
    (kend : ∀ (cells slots sz : Nat) (J : dz_Hp) (ls : List (Nat × Value)), cells ≤ 2000 → slots ≤ 100000 → dz_V κ cells slots sz (ly_s b) (ly_r b) J 734 ls []) :
    ∀ (k t sz : Nat) (J : dz_Hp), t + k = 512 → lw_I b J W T → dz_V κ (C0 + t) (S0 + 6 * t) sz (ly_s b) (ly_r b) J 43 (lw_ls b b0 (2 + 4 * (t : Int))) [] := by
  have hN := dz_dd_N dd
  intro k
  induction k with
  | zero =>
    intro t sz J ht hI
    show dz_V κ (C0 + t) (S0 + 6 * t) sz (ly_s b) (ly_r b) J 43 [(0, .ref b0), (1, .ref (b + 0)), (2, .ref (b + 130)), (3, .ref (b + 145)), (4, .int (dz_i (2 + 4 * (t : Int))))] []
    refine dz_iload x.1 4 d_Law_law_43 rfl ?_
    refine dz_aload_n x.1 0 d_Law_law_45 rfl rfl ?_
    refine dz_slen x.1 sc hL d_Law_law_46 ?_
    refine dz_iconst x.1 d_Law_law_47 ?_
    refine dz_isub (z := (L : Int) - 4) x.1 d_Law_law_48 (by omega) ?_
    refine dz_icmp_gt (tgt := 734) x.1 d_Law_law_49 (by decide) (by omega) (by omega) (fun _ => kend _ _ _ _ _ (by omega) (by omega)) (fun h => by exfalso; omega)
  | succ k ih =>
    intro t sz J ht hI
    show dz_V κ (C0 + t) (S0 + 6 * t) sz (ly_s b) (ly_r b) J 43 [(0, .ref b0), (1, .ref (b + 0)), (2, .ref (b + 130)), (3, .ref (b + 145)), (4, .int (dz_i (2 + 4 * (t : Int))))] []
    refine dz_iload x.1 4 d_Law_law_43 rfl ?_
    refine dz_aload_n x.1 0 d_Law_law_45 rfl rfl ?_
    refine dz_slen x.1 sc hL d_Law_law_46 ?_
    refine dz_iconst x.1 d_Law_law_47 ?_
    refine dz_isub (z := (L : Int) - 4) x.1 d_Law_law_48 (by omega) ?_
    refine dz_icmp_gt (tgt := 734) x.1 d_Law_law_49 (by decide) (by omega) (by omega) (fun _ => kend _ _ _ _ _ (by omega) (by omega)) (fun hlt => ?_)
    refine dz_aload_n x.1 0 d_Law_law_52 rfl rfl ?_
    refine dz_iload x.1 4 d_Law_law_53 rfl ?_
    refine dz_sld x.1 sc hL (by omega) d_Law_law_55 ?_
    refine dz_bipush x.1 d_Law_law_56 (by decide) ?_
    refine dz_iand (z := sp_an (sp_sx xs (2 + 4 * (t : Int)))) x.1 d_Law_law_58 (dz_of _) ?_
    have hv := sp_an_rng (sp_sx xs (2 + 4 * (t : Int)))
    generalize sp_an (sp_sx xs (2 + 4 * (t : Int))) = v at hv ⊢
    have k9 : ∀ (sz' : Nat) (J' : dz_Hp), lw_I b J' W T → dz_V κ (C0 + t + 1) (S0 + 6 * t + 6) sz' (ly_s b) (ly_r b) J' 728 (lw_ls b b0 (2 + 4 * (t : Int))) [] := by
      intro sz' J' hI'
      show dz_V κ (C0 + t + 1) (S0 + 6 * t + 6) sz' (ly_s b) (ly_r b) J' 728 [(0, .ref b0), (1, .ref (b + 0)), (2, .ref (b + 130)), (3, .ref (b + 145)), (4, .int (dz_i (2 + 4 * (t : Int))))] []
      refine dz_iinc (z := 2 + 4 * (t : Int) + 4) (ls' := [(0, .ref b0), (1, .ref (b + 0)), (2, .ref (b + 130)), (3, .ref (b + 145)), (4, .int (dz_i (2 + 4 * (t : Int) + 4)))]) x.1 4 d_Law_law_728 rfl hN (by decide) (by omega) rfl ?_
      refine dz_goto (tgt := 43) x.1 d_Law_law_731 (by decide) ?_
      have h9 := ih (t + 1) sz' J' (by omega) hI'
      rw [show 2 + 4 * ((t + 1 : Nat) : Int) = 2 + 4 * (t : Int) + 4 by omega, show S0 + 6 * (t + 1) = S0 + 6 * t + 6 by omega, show C0 + (t + 1) = C0 + t + 1 by omega] at h9
      exact h9
    obtain ⟨n, g, c, S, w, nb, Bk, H, CI, MI⟩ := id hI
    rcases (by omega : v = 0 ∨ v = 1 ∨ v = 2 ∨ v = 3 ∨ v = 4 ∨ v = 5 ∨ v = 6 ∨ v = 7 ∨ v = 8 ∨ v = 9 ∨ v = 10 ∨ v = 11 ∨ v = 12 ∨ v = 13 ∨ (v < 0 ∨ 13 < v)) with hs | hs | hs | hs | hs | hs | hs | hs | hs | hs | hs | hs | hs | hs | hs
    · refine dz_tableIn (off := 69) (tgt := 128) x.1 d_Law_law_59 (by omega) (by omega) (by rw [hs]; rfl) (by decide) ?_
      exact t_type hst9 x dd rm sc hL (by omega) (by omega) CI MI k9
    · refine dz_tableIn (off := 127) (tgt := 186) x.1 d_Law_law_59 (by omega) (by omega) (by rw [hs]; rfl) (by decide) ?_
      exact t_wipe hst9 x dd rm sc hL (by omega) (by omega) CI MI k9
    · refine dz_tableIn (off := 138) (tgt := 197) x.1 d_Law_law_59 (by omega) (by omega) (by rw [hs]; rfl) (by decide) ?_
      exact t_rules hst9 x dd rm sc hL (by omega) (by omega) CI MI k9
    · refine dz_tableIn (off := 210) (tgt := 269) x.1 d_Law_law_59 (by omega) (by omega) (by rw [hs]; rfl) (by decide) ?_
      exact t_wrong hst9 x dd rm sc hL (by omega) (by omega) CI MI k9
    · refine dz_tableIn (off := 223) (tgt := 282) x.1 d_Law_law_59 (by omega) (by omega) (by rw [hs]; rfl) (by decide) ?_
      exact t_block hst9 x dd rm sc hL (by omega) (by omega) CI MI k9
    · refine dz_tableIn (off := 279) (tgt := 338) x.1 d_Law_law_59 (by omega) (by omega) (by rw [hs]; rfl) (by decide) ?_
      exact t_size hst9 x dd rm sc hL (by omega) (by omega) CI MI k9
    · refine dz_tableIn (off := 335) (tgt := 394) x.1 d_Law_law_59 (by omega) (by omega) (by rw [hs]; rfl) (by decide) ?_
      exact t_cell hst9 x dd rm sc hL (by omega) (by omega) CI MI k9
    · refine dz_tableIn (off := 403) (tgt := 462) x.1 d_Law_law_59 (by omega) (by omega) (by rw [hs]; rfl) (by decide) ?_
      exact t_back hst9 x dd rm sc hL (by omega) (by omega) CI MI k9
    · refine dz_tableIn (off := 459) (tgt := 518) x.1 d_Law_law_59 (by omega) (by omega) (by rw [hs]; rfl) (by decide) ?_
      exact t_heard hst9 x dd rm sc hL (by omega) (by omega) CI MI k9
    · refine dz_tableIn (off := 484) (tgt := 543) x.1 d_Law_law_59 (by omega) (by omega) (by rw [hs]; rfl) (by decide) ?_
      exact t_pages hst9 x dd rm sc hL (by omega) (by omega) CI MI k9
    · refine dz_tableIn (off := 497) (tgt := 556) x.1 d_Law_law_59 (by omega) (by omega) (by rw [hs]; rfl) (by decide) ?_
      exact t_at hst9 x dd rm sc hL (by omega) (by omega) CI MI k9
    · refine dz_tableIn (off := 577) (tgt := 636) x.1 d_Law_law_59 (by omega) (by omega) (by rw [hs]; rfl) (by decide) ?_
      exact t_where hst9 x dd rm sc hL (by omega) (by omega) CI MI k9
    · refine dz_tableIn (off := 633) (tgt := 692) x.1 d_Law_law_59 (by omega) (by omega) (by rw [hs]; rfl) (by decide) ?_
      exact t_heading hst9 x dd rm sc hL (by omega) (by omega) CI MI k9
    · refine dz_tableIn (off := 658) (tgt := 717) x.1 d_Law_law_59 (by omega) (by omega) (by rw [hs]; rfl) (by decide) ?_
      exact t_clear hst9 x dd rm sc hL (by omega) (by omega) CI MI k9
    · refine dz_tableOut (tgt := 728) x.1 d_Law_law_59 (by omega) (by omega) (by decide) ?_
      exact dz_widen (k := C0 + t + 1) (n := S0 + 6 * t + 6) (by omega) (by omega) (k9 _ J hI)
end lw_loop
