def sp_pl (h : Int → Int) (c : Nat) (S : Nat → sp_Ru) (bg e : Int) : Nat → Int → Bool → Bool → Bool → List Int
  | 0, _, _, _, _ => []
  | k + 1, p, nu, nx, rs => if p < e then (sp_rd h c S bg e nu nx rs p).1 ++ sp_pl h c S bg e k (p + (sp_rd h c S bg e nu nx rs p).2.1) (sp_rd h c S bg e nu nx rs p).2.2.1 (sp_rd h c S bg e nu nx rs p).2.2.2.1 (sp_rd h c S bg e nu nx rs p).2.2.2.2 else []
def sp_pi (h : Int → Int) (c : Nat) (S : Nat → sp_Ru) (f : Int) : List Int := sp_pl h c S (sp_cs h f) (sp_ep h f) 300 f false false false
def sp_bk (h : Int → Int) (c : Nat) (S : Nat → sp_Ru) : Nat → Int → List Int
  | 0, _ => []
  | k + 1, i => (if h i = 0 then [32] else if h (i - 1) = 0 then sp_pi h c S i else []) ++ sp_bk h c S k (i + 1)
theorem sp_pl_nil {h : Int → Int} {c : Nat} {S : Nat → sp_Ru} {bg e p : Int} {nu nx rs : Bool} (hp : e ≤ p) (k : Nat) : sp_pl h c S bg e k p nu nx rs = [] := by
  cases k with
  | zero => rfl
  | succ k => simp only [sp_pl]; rw [if_neg (by omega)]
theorem sp_pl_step {h : Int → Int} {c : Nat} {S : Nat → sp_Ru} {bg e p : Int} {nu nx rs : Bool} (hp : p < e) {k : Nat} (hk : 0 < k) : sp_pl h c S bg e k p nu nx rs = (sp_rd h c S bg e nu nx rs p).1 ++ sp_pl h c S bg e (k - 1) (p + (sp_rd h c S bg e nu nx rs p).2.1) (sp_rd h c S bg e nu nx rs p).2.2.1 (sp_rd h c S bg e nu nx rs p).2.2.2.1 (sp_rd h c S bg e nu nx rs p).2.2.2.2 := by
  cases k with
  | zero => omega
  | succ k => simp only [sp_pl]; rw [if_pos hp]; rfl
theorem sp_rd_adv {h : Int → Int} {c : Nat} {S : Nat → sp_Ru} {bg e p : Int} {nu nx rs : Bool} (hw : ∀ r, r < c → sp_rwf (S r)) : 1 ≤ (sp_rd h c S bg e nu nx rs p).2.1 ∧ (sp_rd h c S bg e nu nx rs p).2.1 ≤ 300 ∧ ((sp_rd h c S bg e nu nx rs p).1.length : Int) ≤ 6 * (sp_rd h c S bg e nu nx rs p).2.1 := by
  unfold sp_rd
  obtain ⟨r1, r2, r3, r4⟩ := sp_run_spec (sp_is32 h) 300 p
  change p ≤ sp_cs h p at r1
  change sp_cs h p ≤ p + 300 at r2
  split
  · simp
  · split
    · simp
    · split
      · simp
      · split
        · rename_i h32
          have hne : p < sp_cs h p := by
            by_cases hc : p < sp_cs h p
            · exact hc
            · have he : sp_cs h p = p := by omega
              rcases r4 with r4 | r4
              · change sp_cs h p = _ at r4; omega
              · change sp_is32 h (sp_cs h p) = false at r4
                rw [he] at r4; unfold sp_is32 at r4
                exact absurd h32 (of_decide_eq_false r4)
          split
          · simp; omega
          · simp; omega
        · split
          · simp
          · rename_i r hb
            have h1 := hw r (sp_best_lt _ _ hb).1
            have h2 := h1.2.2.1
            have h3 := h1.2.1
            simp only [sp_ll_len]
            omega
set_option maxRecDepth 100000 in
set_option maxHeartbeats 4000000 in
theorem c_Reader_readCellsAt (l : Launch) (D : va_G) (Dt : Nat → ClassId) (b sz : Nat) (I : dz_Hp) (c : Nat) (S : Nat → sp_Ru) (RI : sp_RC b I c S) (i : Nat) (hi : i < 12) (m : Int) (h : Int → Int) (BI : sp_B b i I m h) (H : List Int) (HI : sp_H b I H) (bg e : Int) (nu nx rs : Bool) (LI : sp_FL b I bg e nu nx rs) (p : Int) (hp : 0 ≤ p ∧ p < m) (he : 0 ≤ bg ∧ bg ≤ 300 ∧ 0 ≤ e ∧ e ≤ 300) (hlen : H.length + (sp_rd h c S bg e nu nx rs p).1.length ≤ 1200) : ly_M l D Dt b sz y_Reader_readCellsAt b_Reader_readCellsAt 6 (some .int) 6 [.ref (b + 78), .ref (b + (82 + 4 * i)), .int (dz_i p)] I (fun v I' => v = some (.int (dz_i (sp_rd h c S bg e nu nx rs p).2.1)) ∧ sp_fr I I' (fun q => q = b + 78 ∨ q = b + 79) ∧ sp_H b I' (H ++ (sp_rd h c S bg e nu nx rs p).1) ∧ sp_FL b I' bg e (sp_rd h c S bg e nu nx rs p).2.2.1 (sp_rd h c S bg e nu nx rs p).2.2.2.1 (sp_rd h c S bg e nu nx rs p).2.2.2.2) := by
  refine ly_enter R_Reader (by decide) rfl (Nat.le_of_ble_eq_true rfl) (ly_cat _ 0 rfl) (fun κ x => ?_)
  have hN := ly_N x
  have hm9 := BI.2.1
  show ly_V κ b sz I 0 [(0, .ref (b + 78)), (1, .ref (b + (82 + 4 * i))), (2, .int (dz_i p))] []
  refine dz_aload_n x.1 1 d_Reader_readCellsAt_0 rfl rfl ?_
  refine dz_iload_n x.1 2 d_Reader_readCellsAt_1 rfl rfl ?_
  refine ly_callV (rest := []) x cl_Reader_26 (c_caAt l D Dt b sz I i hi m h BI p (by omega)) (by decide) (ly_Block b hi) rfl rfl rfl rfl (Nat.le_of_ble_eq_true rfl) d_Reader_readCellsAt_2 (fun v I' hp2 => ?_)
  obtain ⟨rfl, hp2I⟩ := hp2
  have hp2I := hp2I.symm
  subst hp2I
  have hhp2 := BI.rng p
  show ly_V κ b sz I 5 [(0, .ref (b + 78)), (1, .ref (b + (82 + 4 * i))), (2, .int (dz_i p))] [.int (dz_i (h p))]
  refine dz_istore_n (ls' := [(0, .ref (b + 78)), (1, .ref (b + (82 + 4 * i))), (2, .int (dz_i p)), (3, .int (dz_i (h p)))]) x.1 d_Reader_readCellsAt_5 rfl hN (by decide) rfl ?_
  refine dz_aload_n x.1 0 d_Reader_readCellsAt_6 rfl rfl ?_
  refine dz_geti (z := (if nu = true then 1 else 0)) x.1 (ly_Reader b) fl_Reader_51 d_Reader_readCellsAt_7 LI.2.2.1 ?_
  refine dz_if_eq (tgt := 32) x.1 d_Reader_readCellsAt_10 (by decide) (dz_br _) (fun hc10 => ?_) (fun hc10 => ?_)
  · have hc10 : ¬ (nu = true) := dz_bf hc10
    refine dz_aload_n x.1 0 d_Reader_readCellsAt_32 rfl rfl ?_
    refine dz_iload_n x.1 3 d_Reader_readCellsAt_33 rfl rfl ?_
    refine dz_bipush x.1 d_Reader_readCellsAt_34 (by decide) ?_
    refine dz_icmp_ne (tgt := 43) x.1 d_Reader_readCellsAt_36 (by decide) (by omega) (by omega) (fun hc36 => ?_) (fun hc36 => ?_)
    · refine dz_iconst x.1 d_Reader_readCellsAt_43 ?_
      refine dz_putz x.1 (ly_Reader b) fl_Reader_51 fp_Reader_5 (by omega) d_Reader_readCellsAt_44 ?_
      have hnf : ¬ (nu = true ∧ ¬ sp_dig (h p) = 35) := by intro h; first | exact hc10 h.1 | exact h.2 hc19
      obtain ⟨K, hK⟩ : ∃ K, K = dz_up I (b + 78) 5 0 := ⟨_, rfl⟩
      have FK : sp_fr I K (fun q => q = b + 78 ∨ q = b + 79) := by rw [hK]; exact sp_fr.rf.up (Or.inl rfl)
      have HK : sp_H b K H := by rw [hK]; exact HI.fr (dz_up_k _ _ _ (by decide)) (dz_up_n _ _ _ (by omega))
      have LK : sp_FL b K bg e false nx rs := by rw [hK]; exact ⟨by rw [dz_up_k _ _ _ (by decide)]; exact LI.1, by rw [dz_up_k _ _ _ (by decide)]; exact LI.2.1, by rw [dz_up_s]; rfl, by rw [dz_up_k _ _ _ (by decide)]; exact LI.2.2.2.1, by rw [dz_up_k _ _ _ (by decide)]; exact LI.2.2.2.2⟩
      have BK : sp_B b i K m h := BI.fr (FK _ (fun h => by rcases h with h | h <;> omega)) (FK _ (fun h => by rcases h with h | h <;> omega))
      have RK : sp_RC b K c S := RI.fr (by rw [FK _ (fun h => by rcases h with h | h <;> omega)]) (fun q h1 h2 => FK _ (fun h => by rcases h with h | h <;> omega))
      rw [← hK]
      show ly_V κ b sz K 47 [(0, .ref (b + 78)), (1, .ref (b + (82 + 4 * i))), (2, .int (dz_i p)), (3, .int (dz_i (h p)))] []
      refine dz_iload_n x.1 3 d_Reader_readCellsAt_47 rfl rfl ?_
      refine dz_bipush x.1 d_Reader_readCellsAt_48 (by decide) ?_
      refine dz_icmp_eq (tgt := 59) x.1 d_Reader_readCellsAt_50 (by decide) (by omega) (by omega) (fun hc50 => by exfalso; omega) (fun hc50 => ?_)
      refine dz_iload_n x.1 3 d_Reader_readCellsAt_53 rfl rfl ?_
      refine dz_bipush x.1 d_Reader_readCellsAt_54 (by decide) ?_
      refine dz_icmp_ne (tgt := 61) x.1 d_Reader_readCellsAt_56 (by decide) (by omega) (by omega) (fun hc56 => ?_) (fun hc56 => ?_)
      · refine dz_iload_n x.1 3 d_Reader_readCellsAt_61 rfl rfl ?_
        refine dz_bipush x.1 d_Reader_readCellsAt_62 (by decide) ?_
        refine dz_icmp_ne (tgt := 74) x.1 d_Reader_readCellsAt_64 (by decide) (by omega) (by omega) (fun hc64 => ?_) (fun hc64 => ?_)
        · refine dz_aload_n x.1 0 d_Reader_readCellsAt_74 rfl rfl ?_
          refine dz_aload_n x.1 1 d_Reader_readCellsAt_75 rfl rfl ?_
          refine dz_iload_n x.1 2 d_Reader_readCellsAt_76 rfl rfl ?_
          refine ly_callV (rest := []) x cl_Reader_73 (c_Reader_ruleAt l D Dt b sz K c S RK i hi m h BK bg e false nx rs LK p (by omega) he) (by decide) (ly_Reader b) rfl rfl rfl rfl (Nat.le_of_ble_eq_true rfl) d_Reader_readCellsAt_77 (fun v I' hp9 => ?_)
          obtain ⟨hp9, hpI⟩ := hp9
          have hpI := hpI.symm
          subst hpI
          rcases hp9 with ⟨rfl, hb⟩ | ⟨j, hj, rfl, hb⟩
          · have hst : sp_rd h c S bg e nu nx rs p = ([sp_pc nx rs (sp_chr (h p))], 1, false, sp_nx nx (sp_chr (h p)), rs) := by unfold sp_rd; rw [if_neg hnf, if_neg (by omega), if_neg (by omega), if_neg (by omega), hb]
            have hcr := sp_chr_rng (h p)
            show ly_V κ b sz K 80 [(0, .ref (b + 78)), (1, .ref (b + (82 + 4 * i))), (2, .int (dz_i p)), (3, .int (dz_i (h p)))] [.null]
            refine dz_astoreN (ls' := [(0, .ref (b + 78)), (1, .ref (b + (82 + 4 * i))), (2, .int (dz_i p)), (3, .int (dz_i (h p))), (4, .null)]) x.1 d_Reader_readCellsAt_80 hN (by decide) rfl ?_
            refine dz_aloadN x.1 4 d_Reader_readCellsAt_82 rfl ?_
            refine dz_ifnonnullN x.1 d_Reader_readCellsAt_84 ?_
            refine dz_aload_n x.1 0 d_Reader_readCellsAt_87 rfl rfl ?_
            refine dz_iload_n x.1 3 d_Reader_readCellsAt_88 rfl rfl ?_
            refine ly_callS (rest := [.ref (b + 78)]) x cl_Reader_77 (c_Code_characterOf l D Dt b sz K (h p) (by omega)) (by decide) rfl rfl (Nat.le_of_ble_eq_true rfl) d_Reader_readCellsAt_89 (fun v I' hp89 => ?_)
            obtain ⟨rfl, hp89I⟩ := hp89
            have hp89I := hp89I.symm
            subst hp89I
            show ly_V κ b sz K 92 [(0, .ref (b + 78)), (1, .ref (b + (82 + 4 * i))), (2, .int (dz_i p)), (3, .int (dz_i (h p))), (4, .null)] [.int (dz_i (sp_chr (h p))), .ref (b + 78)]
            refine ly_callV (rest := []) x cl_Reader_80 (c_Reader_putInCase l D Dt b sz K (H) HK bg e false (nx) rs LK (by rw [hst] at hlen; simp only [List.length_cons, List.length_nil] at hlen; omega) (sp_chr (h p)) (by omega)) (by decide) (ly_Reader b) rfl rfl rfl rfl (Nat.le_of_ble_eq_true rfl) d_Reader_readCellsAt_92 (fun v J92 hp92 => ?_)
            obtain ⟨rfl, hFJ92, HJ92, LJ92⟩ := hp92
            show ly_V κ b sz J92 95 [(0, .ref (b + 78)), (1, .ref (b + (82 + 4 * i))), (2, .int (dz_i p)), (3, .int (dz_i (h p))), (4, .null)] []
            refine dz_iconst x.1 d_Reader_readCellsAt_95 ?_
            exact ly_iret x d_Reader_readCellsAt_96 rfl ⟨by rw [hst], FK.tr hFJ92 (fun q h => h), by rw [hst]; exact HJ92, by rw [hst]; exact LJ92⟩
          · have hst : sp_rd h c S bg e nu nx rs p = ((sp_ll (S j) nx rs (sp_ln (S j)).toNat).1, sp_cn (S j), false, (sp_ll (S j) nx rs (sp_ln (S j)).toNat).2, rs) := by unfold sp_rd; rw [if_neg hnf, if_neg (by omega), if_neg (by omega), if_neg (by omega), hb]
            have hj24 : j < 24 := by have := RK.2.1; omega
            have hwj := (RK.2.2 j hj).2.2.2.1
            have hwl := (RK.2.2 j hj).2.2.1
            show ly_V κ b sz K 80 [(0, .ref (b + 78)), (1, .ref (b + (82 + 4 * i))), (2, .int (dz_i p)), (3, .int (dz_i (h p)))] [.ref (b + (5 + 3 * j))]
            refine dz_astore (ls' := [(0, .ref (b + 78)), (1, .ref (b + (82 + 4 * i))), (2, .int (dz_i p)), (3, .int (dz_i (h p))), (4, .ref (b + (5 + 3 * j)))]) x.1 d_Reader_readCellsAt_80 hN (by decide) rfl ?_
            refine dz_aload x.1 4 d_Reader_readCellsAt_82 rfl ?_
            refine dz_ifnonnull (tgt := 97) x.1 d_Reader_readCellsAt_84 (by decide) ?_
            refine dz_iconst x.1 d_Reader_readCellsAt_97 ?_
            refine dz_istore (ls' := [(0, .ref (b + 78)), (1, .ref (b + (82 + 4 * i))), (2, .int (dz_i p)), (3, .int (dz_i (h p))), (4, .ref (b + (5 + 3 * j))), (5, .int (dz_i 0))]) x.1 d_Reader_readCellsAt_98 hN (by decide) rfl ?_
            have loop : ∀ (k : Nat) (q : Nat) (J : dz_Hp), ((q : Int) + (k : Int) = sp_ln (S j)) → (sp_fr I J (fun q => q = b + 78 ∨ q = b + 79)) → (sp_RC b J c S) → (sp_H b J (H ++ (sp_ll (S j) nx rs q).1)) → (sp_FL b J bg e false (sp_ll (S j) nx rs q).2 rs) → ly_V κ b sz J 100 [(0, .ref (b + 78)), (1, .ref (b + (82 + 4 * i))), (2, .int (dz_i p)), (3, .int (dz_i (h p))), (4, .ref (b + (5 + 3 * j))), (5, .int (dz_i (q : Int)))] [] := by
              intro k
              induction k with
              | zero =>
                intro q J hq FJ RJ HJ LJ
                refine dz_iload x.1 5 d_Reader_readCellsAt_100 rfl ?_
                refine dz_aload x.1 4 d_Reader_readCellsAt_102 rfl ?_
                refine dz_geti (z := (sp_ln (S j))) x.1 (ly_Rule b hj24) fl_Reader_83 d_Reader_readCellsAt_104 (RJ.2.2 j hj).1.2.1 ?_
                refine dz_icmp_ge (tgt := 128) x.1 d_Reader_readCellsAt_107 (by decide) (by omega) (by omega) (fun hc107 => ?_) (fun hc107 => by exfalso; omega)
                refine dz_aload x.1 4 d_Reader_readCellsAt_128 rfl ?_
                refine dz_geti (z := (sp_cn (S j))) x.1 (ly_Rule b hj24) fl_Reader_91 d_Reader_readCellsAt_130 (RJ.2.2 j hj).1.2.2.1 ?_
                exact ly_iret x d_Reader_readCellsAt_133 rfl ⟨by rw [hst], FJ, by rw [hst, show (sp_ln (S j)).toNat = q by omega]; exact HJ, by rw [hst, show (sp_ln (S j)).toNat = q by omega]; exact LJ⟩
              | succ k ih =>
                intro q J hq FJ RJ HJ LJ
                refine dz_iload x.1 5 d_Reader_readCellsAt_100 rfl ?_
                refine dz_aload x.1 4 d_Reader_readCellsAt_102 rfl ?_
                refine dz_geti (z := (sp_ln (S j))) x.1 (ly_Rule b hj24) fl_Reader_83 d_Reader_readCellsAt_104 (RJ.2.2 j hj).1.2.1 ?_
                refine dz_icmp_ge (tgt := 128) x.1 d_Reader_readCellsAt_107 (by decide) (by omega) (by omega) (fun hc107 => by exfalso; omega) (fun hc107 => ?_)
                have hlt := (RJ.2.2 j hj).2.2.2.2.1 q (by omega) (by omega)
                refine dz_aload_n x.1 0 d_Reader_readCellsAt_110 rfl rfl ?_
                refine dz_aload x.1 4 d_Reader_readCellsAt_111 rfl ?_
                refine dz_getr x.1 (ly_Rule b hj24) fl_Reader_88 (lr_Rule_1 b hj24) d_Reader_readCellsAt_113 ?_
                refine dz_iload x.1 5 d_Reader_readCellsAt_116 rfl ?_
                refine dz_cald (w := (sp_lt (S j) (q : Int))) x.1 (ly_Letters b hj24) (by decide) (by omega) d_Reader_readCellsAt_118 ((RJ.2.2 j hj).1.2.2.2.1 q (by omega) (by omega)) ?_
                refine ly_callV (rest := []) x cl_Reader_80 (c_Reader_putInCase l D Dt b sz J (H ++ (sp_ll (S j) nx rs q).1) HJ bg e false ((sp_ll (S j) nx rs q).2) rs LJ (by rw [hst] at hlen; simp only [List.length_append, sp_ll_len] at hlen ⊢; omega) (sp_lt (S j) (q : Int)) (by omega)) (by decide) (ly_Reader b) rfl rfl rfl rfl (Nat.le_of_ble_eq_true rfl) d_Reader_readCellsAt_119 (fun v J119 hp119 => ?_)
                obtain ⟨rfl, hFJ119, HJ119, LJ119⟩ := hp119
                show ly_V κ b sz J119 122 [(0, .ref (b + 78)), (1, .ref (b + (82 + 4 * i))), (2, .int (dz_i p)), (3, .int (dz_i (h p))), (4, .ref (b + (5 + 3 * j))), (5, .int (dz_i (q : Int)))] []
                refine dz_iinc (z := (q : Int) + 1) (ls' := [(0, .ref (b + 78)), (1, .ref (b + (82 + 4 * i))), (2, .int (dz_i p)), (3, .int (dz_i (h p))), (4, .ref (b + (5 + 3 * j))), (5, .int (dz_i ((q : Int) + 1)))]) x.1 5 d_Reader_readCellsAt_122 rfl hN (by decide) (by omega) rfl ?_
                refine dz_goto (tgt := 100) x.1 d_Reader_readCellsAt_125 (by decide) ?_
                have FJ119 : sp_fr I J119 (fun q => q = b + 78 ∨ q = b + 79) := FJ.tr hFJ119 (fun q h => h)
                have HK2 : sp_H b J119 (H ++ (sp_ll (S j) nx rs (q + 1)).1) := by have h9 := HJ119; rw [List.append_assoc] at h9; exact h9
                exact ih (q + 1) J119 (by omega) FJ119 (RJ.fr (by rw [hFJ119 _ (fun h => by rcases h with h | h <;> omega)]) (fun q h1 h2 => hFJ119 _ (fun h => by rcases h with h | h <;> omega))) HK2 LJ119
            exact loop (sp_ln (S j)).toNat 0 K (by omega) FK RK (by simpa [sp_ll] using HK) LK
        · refine dz_aload_n x.1 0 d_Reader_readCellsAt_67 rfl rfl ?_
          refine dz_aload_n x.1 1 d_Reader_readCellsAt_68 rfl rfl ?_
          refine dz_iload_n x.1 2 d_Reader_readCellsAt_69 rfl rfl ?_
          refine ly_callV (rest := []) x cl_Reader_70 (c_Reader_passCapitalSigns l D Dt b sz K i hi m h BK p (by omega)) (by decide) (ly_Reader b) rfl rfl rfl rfl (Nat.le_of_ble_eq_true rfl) d_Reader_readCellsAt_70 (fun v I' hp9 => ?_)
          obtain ⟨rfl, hp9⟩ := hp9
          rcases hp9 with ⟨h1c, hpI⟩ | ⟨h1c, hpI⟩
          · have hpI := hpI.symm
            subst hpI
            show ly_V κ b sz (dz_up K (b + 78) 6 1) 73 [(0, .ref (b + 78)), (1, .ref (b + (82 + 4 * i))), (2, .int (dz_i p)), (3, .int (dz_i (h p)))] [.int (dz_i ((sp_cs h p) - p))]
            have hst : sp_rd h c S bg e nu nx rs p = ([], sp_cs h p - p, false, true, rs) := by unfold sp_rd; rw [if_neg hnf, if_neg (by omega), if_neg (by omega), if_pos (by omega), if_pos h1c]
            exact ly_iret x d_Reader_readCellsAt_73 rfl ⟨by rw [hst], FK.up (Or.inl rfl), by rw [hst]; simpa using HK.fr (dz_up_k _ _ _ (by decide)) (dz_up_n _ _ _ (by omega)), by rw [hst]; exact ⟨by rw [dz_up_k _ _ _ (by decide)]; exact LK.1, by rw [dz_up_k _ _ _ (by decide)]; exact LK.2.1, by rw [dz_up_k _ _ _ (by decide)]; exact LK.2.2.1, by rw [dz_up_s]; rfl, by rw [dz_up_k _ _ _ (by decide)]; exact LK.2.2.2.2⟩⟩
          · have hpI := hpI.symm
            subst hpI
            show ly_V κ b sz (dz_up K (b + 78) 7 1) 73 [(0, .ref (b + 78)), (1, .ref (b + (82 + 4 * i))), (2, .int (dz_i p)), (3, .int (dz_i (h p)))] [.int (dz_i ((sp_cs h p) - p))]
            have hst : sp_rd h c S bg e nu nx rs p = ([], sp_cs h p - p, false, nx, true) := by unfold sp_rd; rw [if_neg hnf, if_neg (by omega), if_neg (by omega), if_pos (by omega), if_neg h1c]
            exact ly_iret x d_Reader_readCellsAt_73 rfl ⟨by rw [hst], FK.up (Or.inl rfl), by rw [hst]; simpa using HK.fr (dz_up_k _ _ _ (by decide)) (dz_up_n _ _ _ (by omega)), by rw [hst]; exact ⟨by rw [dz_up_k _ _ _ (by decide)]; exact LK.1, by rw [dz_up_k _ _ _ (by decide)]; exact LK.2.1, by rw [dz_up_k _ _ _ (by decide)]; exact LK.2.2.1, by rw [dz_up_k _ _ _ (by decide)]; exact LK.2.2.2.1, by rw [dz_up_s]; rfl⟩⟩
      · refine dz_iconst x.1 d_Reader_readCellsAt_59 ?_
        have hst : sp_rd h c S bg e nu nx rs p = ([], 1, false, nx, rs) := by unfold sp_rd; rw [if_neg hnf, if_neg (by omega), if_pos (by omega)]
        exact ly_iret x d_Reader_readCellsAt_60 rfl ⟨by rw [hst], FK, by rw [hst]; simpa using HK, by rw [hst]; exact LK⟩
    · refine dz_iconst x.1 d_Reader_readCellsAt_39 ?_
      refine dz_goto (tgt := 44) x.1 d_Reader_readCellsAt_40 (by decide) ?_
      refine dz_putz x.1 (ly_Reader b) fl_Reader_51 fp_Reader_5 (by omega) d_Reader_readCellsAt_44 ?_
      have hnf : ¬ (nu = true ∧ ¬ sp_dig (h p) = 35) := by intro h; first | exact hc10 h.1 | exact h.2 hc19
      obtain ⟨K, hK⟩ : ∃ K, K = dz_up I (b + 78) 5 1 := ⟨_, rfl⟩
      have FK : sp_fr I K (fun q => q = b + 78 ∨ q = b + 79) := by rw [hK]; exact sp_fr.rf.up (Or.inl rfl)
      have HK : sp_H b K H := by rw [hK]; exact HI.fr (dz_up_k _ _ _ (by decide)) (dz_up_n _ _ _ (by omega))
      have LK : sp_FL b K bg e true nx rs := by rw [hK]; exact ⟨by rw [dz_up_k _ _ _ (by decide)]; exact LI.1, by rw [dz_up_k _ _ _ (by decide)]; exact LI.2.1, by rw [dz_up_s]; rfl, by rw [dz_up_k _ _ _ (by decide)]; exact LI.2.2.2.1, by rw [dz_up_k _ _ _ (by decide)]; exact LI.2.2.2.2⟩
      have BK : sp_B b i K m h := BI.fr (FK _ (fun h => by rcases h with h | h <;> omega)) (FK _ (fun h => by rcases h with h | h <;> omega))
      have RK : sp_RC b K c S := RI.fr (by rw [FK _ (fun h => by rcases h with h | h <;> omega)]) (fun q h1 h2 => FK _ (fun h => by rcases h with h | h <;> omega))
      rw [← hK]
      show ly_V κ b sz K 47 [(0, .ref (b + 78)), (1, .ref (b + (82 + 4 * i))), (2, .int (dz_i p)), (3, .int (dz_i (h p)))] []
      refine dz_iload_n x.1 3 d_Reader_readCellsAt_47 rfl rfl ?_
      refine dz_bipush x.1 d_Reader_readCellsAt_48 (by decide) ?_
      refine dz_icmp_eq (tgt := 59) x.1 d_Reader_readCellsAt_50 (by decide) (by omega) (by omega) (fun hc50 => ?_) (fun hc50 => by exfalso; omega)
      refine dz_iconst x.1 d_Reader_readCellsAt_59 ?_
      have hst : sp_rd h c S bg e nu nx rs p = ([], 1, true, nx, rs) := by unfold sp_rd; rw [if_neg hnf, if_pos (by omega)]
      exact ly_iret x d_Reader_readCellsAt_60 rfl ⟨by rw [hst], FK, by rw [hst]; simpa using HK, by rw [hst]; exact LK⟩
  · have hc10 : nu = true := dz_bt hc10
    refine dz_iload_n x.1 3 d_Reader_readCellsAt_13 rfl rfl ?_
    refine ly_callS (rest := []) x cl_Reader_64 (c_Code_digitOf l D Dt b sz I (h p) (by omega)) (by decide) rfl rfl (Nat.le_of_ble_eq_true rfl) d_Reader_readCellsAt_14 (fun v I' hp14 => ?_)
    obtain ⟨rfl, hp14I⟩ := hp14
    have hp14I := hp14I.symm
    subst hp14I
    have hdg := sp_dig_rng (h p)
    show ly_V κ b sz I 17 [(0, .ref (b + 78)), (1, .ref (b + (82 + 4 * i))), (2, .int (dz_i p)), (3, .int (dz_i (h p)))] [.int (dz_i (sp_dig (h p)))]
    refine dz_bipush x.1 d_Reader_readCellsAt_17 (by decide) ?_
    refine dz_icmp_eq (tgt := 32) x.1 d_Reader_readCellsAt_19 (by decide) (by omega) (by omega) (fun hc19 => ?_) (fun hc19 => ?_)
    · refine dz_aload_n x.1 0 d_Reader_readCellsAt_32 rfl rfl ?_
      refine dz_iload_n x.1 3 d_Reader_readCellsAt_33 rfl rfl ?_
      refine dz_bipush x.1 d_Reader_readCellsAt_34 (by decide) ?_
      refine dz_icmp_ne (tgt := 43) x.1 d_Reader_readCellsAt_36 (by decide) (by omega) (by omega) (fun hc36 => ?_) (fun hc36 => ?_)
      · refine dz_iconst x.1 d_Reader_readCellsAt_43 ?_
        refine dz_putz x.1 (ly_Reader b) fl_Reader_51 fp_Reader_5 (by omega) d_Reader_readCellsAt_44 ?_
        have hnf : ¬ (nu = true ∧ ¬ sp_dig (h p) = 35) := by intro h; first | exact hc10 h.1 | exact h.2 hc19
        obtain ⟨K, hK⟩ : ∃ K, K = dz_up I (b + 78) 5 0 := ⟨_, rfl⟩
        have FK : sp_fr I K (fun q => q = b + 78 ∨ q = b + 79) := by rw [hK]; exact sp_fr.rf.up (Or.inl rfl)
        have HK : sp_H b K H := by rw [hK]; exact HI.fr (dz_up_k _ _ _ (by decide)) (dz_up_n _ _ _ (by omega))
        have LK : sp_FL b K bg e false nx rs := by rw [hK]; exact ⟨by rw [dz_up_k _ _ _ (by decide)]; exact LI.1, by rw [dz_up_k _ _ _ (by decide)]; exact LI.2.1, by rw [dz_up_s]; rfl, by rw [dz_up_k _ _ _ (by decide)]; exact LI.2.2.2.1, by rw [dz_up_k _ _ _ (by decide)]; exact LI.2.2.2.2⟩
        have BK : sp_B b i K m h := BI.fr (FK _ (fun h => by rcases h with h | h <;> omega)) (FK _ (fun h => by rcases h with h | h <;> omega))
        have RK : sp_RC b K c S := RI.fr (by rw [FK _ (fun h => by rcases h with h | h <;> omega)]) (fun q h1 h2 => FK _ (fun h => by rcases h with h | h <;> omega))
        rw [← hK]
        show ly_V κ b sz K 47 [(0, .ref (b + 78)), (1, .ref (b + (82 + 4 * i))), (2, .int (dz_i p)), (3, .int (dz_i (h p)))] []
        refine dz_iload_n x.1 3 d_Reader_readCellsAt_47 rfl rfl ?_
        refine dz_bipush x.1 d_Reader_readCellsAt_48 (by decide) ?_
        refine dz_icmp_eq (tgt := 59) x.1 d_Reader_readCellsAt_50 (by decide) (by omega) (by omega) (fun hc50 => by exfalso; omega) (fun hc50 => ?_)
        refine dz_iload_n x.1 3 d_Reader_readCellsAt_53 rfl rfl ?_
        refine dz_bipush x.1 d_Reader_readCellsAt_54 (by decide) ?_
        refine dz_icmp_ne (tgt := 61) x.1 d_Reader_readCellsAt_56 (by decide) (by omega) (by omega) (fun hc56 => ?_) (fun hc56 => ?_)
        · refine dz_iload_n x.1 3 d_Reader_readCellsAt_61 rfl rfl ?_
          refine dz_bipush x.1 d_Reader_readCellsAt_62 (by decide) ?_
          refine dz_icmp_ne (tgt := 74) x.1 d_Reader_readCellsAt_64 (by decide) (by omega) (by omega) (fun hc64 => ?_) (fun hc64 => ?_)
          · refine dz_aload_n x.1 0 d_Reader_readCellsAt_74 rfl rfl ?_
            refine dz_aload_n x.1 1 d_Reader_readCellsAt_75 rfl rfl ?_
            refine dz_iload_n x.1 2 d_Reader_readCellsAt_76 rfl rfl ?_
            refine ly_callV (rest := []) x cl_Reader_73 (c_Reader_ruleAt l D Dt b sz K c S RK i hi m h BK bg e false nx rs LK p (by omega) he) (by decide) (ly_Reader b) rfl rfl rfl rfl (Nat.le_of_ble_eq_true rfl) d_Reader_readCellsAt_77 (fun v I' hp9 => ?_)
            obtain ⟨hp9, hpI⟩ := hp9
            have hpI := hpI.symm
            subst hpI
            rcases hp9 with ⟨rfl, hb⟩ | ⟨j, hj, rfl, hb⟩
            · have hst : sp_rd h c S bg e nu nx rs p = ([sp_pc nx rs (sp_chr (h p))], 1, false, sp_nx nx (sp_chr (h p)), rs) := by unfold sp_rd; rw [if_neg hnf, if_neg (by omega), if_neg (by omega), if_neg (by omega), hb]
              have hcr := sp_chr_rng (h p)
              show ly_V κ b sz K 80 [(0, .ref (b + 78)), (1, .ref (b + (82 + 4 * i))), (2, .int (dz_i p)), (3, .int (dz_i (h p)))] [.null]
              refine dz_astoreN (ls' := [(0, .ref (b + 78)), (1, .ref (b + (82 + 4 * i))), (2, .int (dz_i p)), (3, .int (dz_i (h p))), (4, .null)]) x.1 d_Reader_readCellsAt_80 hN (by decide) rfl ?_
              refine dz_aloadN x.1 4 d_Reader_readCellsAt_82 rfl ?_
              refine dz_ifnonnullN x.1 d_Reader_readCellsAt_84 ?_
              refine dz_aload_n x.1 0 d_Reader_readCellsAt_87 rfl rfl ?_
              refine dz_iload_n x.1 3 d_Reader_readCellsAt_88 rfl rfl ?_
              refine ly_callS (rest := [.ref (b + 78)]) x cl_Reader_77 (c_Code_characterOf l D Dt b sz K (h p) (by omega)) (by decide) rfl rfl (Nat.le_of_ble_eq_true rfl) d_Reader_readCellsAt_89 (fun v I' hp89 => ?_)
              obtain ⟨rfl, hp89I⟩ := hp89
              have hp89I := hp89I.symm
              subst hp89I
              show ly_V κ b sz K 92 [(0, .ref (b + 78)), (1, .ref (b + (82 + 4 * i))), (2, .int (dz_i p)), (3, .int (dz_i (h p))), (4, .null)] [.int (dz_i (sp_chr (h p))), .ref (b + 78)]
              refine ly_callV (rest := []) x cl_Reader_80 (c_Reader_putInCase l D Dt b sz K (H) HK bg e false (nx) rs LK (by rw [hst] at hlen; simp only [List.length_cons, List.length_nil] at hlen; omega) (sp_chr (h p)) (by omega)) (by decide) (ly_Reader b) rfl rfl rfl rfl (Nat.le_of_ble_eq_true rfl) d_Reader_readCellsAt_92 (fun v J92 hp92 => ?_)
              obtain ⟨rfl, hFJ92, HJ92, LJ92⟩ := hp92
              show ly_V κ b sz J92 95 [(0, .ref (b + 78)), (1, .ref (b + (82 + 4 * i))), (2, .int (dz_i p)), (3, .int (dz_i (h p))), (4, .null)] []
              refine dz_iconst x.1 d_Reader_readCellsAt_95 ?_
              exact ly_iret x d_Reader_readCellsAt_96 rfl ⟨by rw [hst], FK.tr hFJ92 (fun q h => h), by rw [hst]; exact HJ92, by rw [hst]; exact LJ92⟩
            · have hst : sp_rd h c S bg e nu nx rs p = ((sp_ll (S j) nx rs (sp_ln (S j)).toNat).1, sp_cn (S j), false, (sp_ll (S j) nx rs (sp_ln (S j)).toNat).2, rs) := by unfold sp_rd; rw [if_neg hnf, if_neg (by omega), if_neg (by omega), if_neg (by omega), hb]
              have hj24 : j < 24 := by have := RK.2.1; omega
              have hwj := (RK.2.2 j hj).2.2.2.1
              have hwl := (RK.2.2 j hj).2.2.1
              show ly_V κ b sz K 80 [(0, .ref (b + 78)), (1, .ref (b + (82 + 4 * i))), (2, .int (dz_i p)), (3, .int (dz_i (h p)))] [.ref (b + (5 + 3 * j))]
              refine dz_astore (ls' := [(0, .ref (b + 78)), (1, .ref (b + (82 + 4 * i))), (2, .int (dz_i p)), (3, .int (dz_i (h p))), (4, .ref (b + (5 + 3 * j)))]) x.1 d_Reader_readCellsAt_80 hN (by decide) rfl ?_
              refine dz_aload x.1 4 d_Reader_readCellsAt_82 rfl ?_
              refine dz_ifnonnull (tgt := 97) x.1 d_Reader_readCellsAt_84 (by decide) ?_
              refine dz_iconst x.1 d_Reader_readCellsAt_97 ?_
              refine dz_istore (ls' := [(0, .ref (b + 78)), (1, .ref (b + (82 + 4 * i))), (2, .int (dz_i p)), (3, .int (dz_i (h p))), (4, .ref (b + (5 + 3 * j))), (5, .int (dz_i 0))]) x.1 d_Reader_readCellsAt_98 hN (by decide) rfl ?_
              have loop : ∀ (k : Nat) (q : Nat) (J : dz_Hp), ((q : Int) + (k : Int) = sp_ln (S j)) → (sp_fr I J (fun q => q = b + 78 ∨ q = b + 79)) → (sp_RC b J c S) → (sp_H b J (H ++ (sp_ll (S j) nx rs q).1)) → (sp_FL b J bg e false (sp_ll (S j) nx rs q).2 rs) → ly_V κ b sz J 100 [(0, .ref (b + 78)), (1, .ref (b + (82 + 4 * i))), (2, .int (dz_i p)), (3, .int (dz_i (h p))), (4, .ref (b + (5 + 3 * j))), (5, .int (dz_i (q : Int)))] [] := by
                intro k
                induction k with
                | zero =>
                  intro q J hq FJ RJ HJ LJ
                  refine dz_iload x.1 5 d_Reader_readCellsAt_100 rfl ?_
                  refine dz_aload x.1 4 d_Reader_readCellsAt_102 rfl ?_
                  refine dz_geti (z := (sp_ln (S j))) x.1 (ly_Rule b hj24) fl_Reader_83 d_Reader_readCellsAt_104 (RJ.2.2 j hj).1.2.1 ?_
                  refine dz_icmp_ge (tgt := 128) x.1 d_Reader_readCellsAt_107 (by decide) (by omega) (by omega) (fun hc107 => ?_) (fun hc107 => by exfalso; omega)
                  refine dz_aload x.1 4 d_Reader_readCellsAt_128 rfl ?_
                  refine dz_geti (z := (sp_cn (S j))) x.1 (ly_Rule b hj24) fl_Reader_91 d_Reader_readCellsAt_130 (RJ.2.2 j hj).1.2.2.1 ?_
                  exact ly_iret x d_Reader_readCellsAt_133 rfl ⟨by rw [hst], FJ, by rw [hst, show (sp_ln (S j)).toNat = q by omega]; exact HJ, by rw [hst, show (sp_ln (S j)).toNat = q by omega]; exact LJ⟩
                | succ k ih =>
                  intro q J hq FJ RJ HJ LJ
                  refine dz_iload x.1 5 d_Reader_readCellsAt_100 rfl ?_
                  refine dz_aload x.1 4 d_Reader_readCellsAt_102 rfl ?_
                  refine dz_geti (z := (sp_ln (S j))) x.1 (ly_Rule b hj24) fl_Reader_83 d_Reader_readCellsAt_104 (RJ.2.2 j hj).1.2.1 ?_
                  refine dz_icmp_ge (tgt := 128) x.1 d_Reader_readCellsAt_107 (by decide) (by omega) (by omega) (fun hc107 => by exfalso; omega) (fun hc107 => ?_)
                  have hlt := (RJ.2.2 j hj).2.2.2.2.1 q (by omega) (by omega)
                  refine dz_aload_n x.1 0 d_Reader_readCellsAt_110 rfl rfl ?_
                  refine dz_aload x.1 4 d_Reader_readCellsAt_111 rfl ?_
                  refine dz_getr x.1 (ly_Rule b hj24) fl_Reader_88 (lr_Rule_1 b hj24) d_Reader_readCellsAt_113 ?_
                  refine dz_iload x.1 5 d_Reader_readCellsAt_116 rfl ?_
                  refine dz_cald (w := (sp_lt (S j) (q : Int))) x.1 (ly_Letters b hj24) (by decide) (by omega) d_Reader_readCellsAt_118 ((RJ.2.2 j hj).1.2.2.2.1 q (by omega) (by omega)) ?_
                  refine ly_callV (rest := []) x cl_Reader_80 (c_Reader_putInCase l D Dt b sz J (H ++ (sp_ll (S j) nx rs q).1) HJ bg e false ((sp_ll (S j) nx rs q).2) rs LJ (by rw [hst] at hlen; simp only [List.length_append, sp_ll_len] at hlen ⊢; omega) (sp_lt (S j) (q : Int)) (by omega)) (by decide) (ly_Reader b) rfl rfl rfl rfl (Nat.le_of_ble_eq_true rfl) d_Reader_readCellsAt_119 (fun v J119 hp119 => ?_)
                  obtain ⟨rfl, hFJ119, HJ119, LJ119⟩ := hp119
                  show ly_V κ b sz J119 122 [(0, .ref (b + 78)), (1, .ref (b + (82 + 4 * i))), (2, .int (dz_i p)), (3, .int (dz_i (h p))), (4, .ref (b + (5 + 3 * j))), (5, .int (dz_i (q : Int)))] []
                  refine dz_iinc (z := (q : Int) + 1) (ls' := [(0, .ref (b + 78)), (1, .ref (b + (82 + 4 * i))), (2, .int (dz_i p)), (3, .int (dz_i (h p))), (4, .ref (b + (5 + 3 * j))), (5, .int (dz_i ((q : Int) + 1)))]) x.1 5 d_Reader_readCellsAt_122 rfl hN (by decide) (by omega) rfl ?_
                  refine dz_goto (tgt := 100) x.1 d_Reader_readCellsAt_125 (by decide) ?_
                  have FJ119 : sp_fr I J119 (fun q => q = b + 78 ∨ q = b + 79) := FJ.tr hFJ119 (fun q h => h)
                  have HK2 : sp_H b J119 (H ++ (sp_ll (S j) nx rs (q + 1)).1) := by have h9 := HJ119; rw [List.append_assoc] at h9; exact h9
                  exact ih (q + 1) J119 (by omega) FJ119 (RJ.fr (by rw [hFJ119 _ (fun h => by rcases h with h | h <;> omega)]) (fun q h1 h2 => hFJ119 _ (fun h => by rcases h with h | h <;> omega))) HK2 LJ119
              exact loop (sp_ln (S j)).toNat 0 K (by omega) FK RK (by simpa [sp_ll] using HK) LK
          · refine dz_aload_n x.1 0 d_Reader_readCellsAt_67 rfl rfl ?_
            refine dz_aload_n x.1 1 d_Reader_readCellsAt_68 rfl rfl ?_
            refine dz_iload_n x.1 2 d_Reader_readCellsAt_69 rfl rfl ?_
            refine ly_callV (rest := []) x cl_Reader_70 (c_Reader_passCapitalSigns l D Dt b sz K i hi m h BK p (by omega)) (by decide) (ly_Reader b) rfl rfl rfl rfl (Nat.le_of_ble_eq_true rfl) d_Reader_readCellsAt_70 (fun v I' hp9 => ?_)
            obtain ⟨rfl, hp9⟩ := hp9
            rcases hp9 with ⟨h1c, hpI⟩ | ⟨h1c, hpI⟩
            · have hpI := hpI.symm
              subst hpI
              show ly_V κ b sz (dz_up K (b + 78) 6 1) 73 [(0, .ref (b + 78)), (1, .ref (b + (82 + 4 * i))), (2, .int (dz_i p)), (3, .int (dz_i (h p)))] [.int (dz_i ((sp_cs h p) - p))]
              have hst : sp_rd h c S bg e nu nx rs p = ([], sp_cs h p - p, false, true, rs) := by unfold sp_rd; rw [if_neg hnf, if_neg (by omega), if_neg (by omega), if_pos (by omega), if_pos h1c]
              exact ly_iret x d_Reader_readCellsAt_73 rfl ⟨by rw [hst], FK.up (Or.inl rfl), by rw [hst]; simpa using HK.fr (dz_up_k _ _ _ (by decide)) (dz_up_n _ _ _ (by omega)), by rw [hst]; exact ⟨by rw [dz_up_k _ _ _ (by decide)]; exact LK.1, by rw [dz_up_k _ _ _ (by decide)]; exact LK.2.1, by rw [dz_up_k _ _ _ (by decide)]; exact LK.2.2.1, by rw [dz_up_s]; rfl, by rw [dz_up_k _ _ _ (by decide)]; exact LK.2.2.2.2⟩⟩
            · have hpI := hpI.symm
              subst hpI
              show ly_V κ b sz (dz_up K (b + 78) 7 1) 73 [(0, .ref (b + 78)), (1, .ref (b + (82 + 4 * i))), (2, .int (dz_i p)), (3, .int (dz_i (h p)))] [.int (dz_i ((sp_cs h p) - p))]
              have hst : sp_rd h c S bg e nu nx rs p = ([], sp_cs h p - p, false, nx, true) := by unfold sp_rd; rw [if_neg hnf, if_neg (by omega), if_neg (by omega), if_pos (by omega), if_neg h1c]
              exact ly_iret x d_Reader_readCellsAt_73 rfl ⟨by rw [hst], FK.up (Or.inl rfl), by rw [hst]; simpa using HK.fr (dz_up_k _ _ _ (by decide)) (dz_up_n _ _ _ (by omega)), by rw [hst]; exact ⟨by rw [dz_up_k _ _ _ (by decide)]; exact LK.1, by rw [dz_up_k _ _ _ (by decide)]; exact LK.2.1, by rw [dz_up_k _ _ _ (by decide)]; exact LK.2.2.1, by rw [dz_up_k _ _ _ (by decide)]; exact LK.2.2.2.1, by rw [dz_up_s]; rfl⟩⟩
        · refine dz_iconst x.1 d_Reader_readCellsAt_59 ?_
          have hst : sp_rd h c S bg e nu nx rs p = ([], 1, false, nx, rs) := by unfold sp_rd; rw [if_neg hnf, if_neg (by omega), if_pos (by omega)]
          exact ly_iret x d_Reader_readCellsAt_60 rfl ⟨by rw [hst], FK, by rw [hst]; simpa using HK, by rw [hst]; exact LK⟩
      · refine dz_iconst x.1 d_Reader_readCellsAt_39 ?_
        refine dz_goto (tgt := 44) x.1 d_Reader_readCellsAt_40 (by decide) ?_
        refine dz_putz x.1 (ly_Reader b) fl_Reader_51 fp_Reader_5 (by omega) d_Reader_readCellsAt_44 ?_
        have hnf : ¬ (nu = true ∧ ¬ sp_dig (h p) = 35) := by intro h; first | exact hc10 h.1 | exact h.2 hc19
        obtain ⟨K, hK⟩ : ∃ K, K = dz_up I (b + 78) 5 1 := ⟨_, rfl⟩
        have FK : sp_fr I K (fun q => q = b + 78 ∨ q = b + 79) := by rw [hK]; exact sp_fr.rf.up (Or.inl rfl)
        have HK : sp_H b K H := by rw [hK]; exact HI.fr (dz_up_k _ _ _ (by decide)) (dz_up_n _ _ _ (by omega))
        have LK : sp_FL b K bg e true nx rs := by rw [hK]; exact ⟨by rw [dz_up_k _ _ _ (by decide)]; exact LI.1, by rw [dz_up_k _ _ _ (by decide)]; exact LI.2.1, by rw [dz_up_s]; rfl, by rw [dz_up_k _ _ _ (by decide)]; exact LI.2.2.2.1, by rw [dz_up_k _ _ _ (by decide)]; exact LI.2.2.2.2⟩
        have BK : sp_B b i K m h := BI.fr (FK _ (fun h => by rcases h with h | h <;> omega)) (FK _ (fun h => by rcases h with h | h <;> omega))
        have RK : sp_RC b K c S := RI.fr (by rw [FK _ (fun h => by rcases h with h | h <;> omega)]) (fun q h1 h2 => FK _ (fun h => by rcases h with h | h <;> omega))
        rw [← hK]
        show ly_V κ b sz K 47 [(0, .ref (b + 78)), (1, .ref (b + (82 + 4 * i))), (2, .int (dz_i p)), (3, .int (dz_i (h p)))] []
        refine dz_iload_n x.1 3 d_Reader_readCellsAt_47 rfl rfl ?_
        refine dz_bipush x.1 d_Reader_readCellsAt_48 (by decide) ?_
        refine dz_icmp_eq (tgt := 59) x.1 d_Reader_readCellsAt_50 (by decide) (by omega) (by omega) (fun hc50 => ?_) (fun hc50 => by exfalso; omega)
        refine dz_iconst x.1 d_Reader_readCellsAt_59 ?_
        have hst : sp_rd h c S bg e nu nx rs p = ([], 1, true, nx, rs) := by unfold sp_rd; rw [if_neg hnf, if_pos (by omega)]
        exact ly_iret x d_Reader_readCellsAt_60 rfl ⟨by rw [hst], FK, by rw [hst]; simpa using HK, by rw [hst]; exact LK⟩
    · have hst : sp_rd h c S bg e nu nx rs p = ([sp_dig (h p)], 1, nu, nx, rs) := by unfold sp_rd; rw [if_pos ⟨hc10, hc19⟩]
      refine dz_aload_n x.1 0 d_Reader_readCellsAt_22 rfl rfl ?_
      refine dz_iload_n x.1 3 d_Reader_readCellsAt_23 rfl rfl ?_
      refine ly_callS (rest := [.ref (b + 78)]) x cl_Reader_64 (c_Code_digitOf l D Dt b sz I (h p) (by omega)) (by decide) rfl rfl (Nat.le_of_ble_eq_true rfl) d_Reader_readCellsAt_24 (fun v I' hp24 => ?_)
      obtain ⟨rfl, hp24I⟩ := hp24
      have hp24I := hp24I.symm
      subst hp24I
      show ly_V κ b sz I 27 [(0, .ref (b + 78)), (1, .ref (b + (82 + 4 * i))), (2, .int (dz_i p)), (3, .int (dz_i (h p)))] [.int (dz_i (sp_dig (h p))), .ref (b + 78)]
      refine ly_callV (rest := []) x cl_Reader_30 (c_Reader_put l D Dt b sz I H HI (by rw [hst] at hlen; simp only [List.length_cons, List.length_nil] at hlen; omega) (sp_dig (h p)) (by omega)) (by decide) (ly_Reader b) rfl rfl rfl rfl (Nat.le_of_ble_eq_true rfl) d_Reader_readCellsAt_27 (fun v J27 hp27 => ?_)
      obtain ⟨rfl, hFJ27, hAJ27, HJ27⟩ := hp27
      show ly_V κ b sz J27 30 [(0, .ref (b + 78)), (1, .ref (b + (82 + 4 * i))), (2, .int (dz_i p)), (3, .int (dz_i (h p)))] []
      refine dz_iconst x.1 d_Reader_readCellsAt_30 ?_
      exact ly_iret x d_Reader_readCellsAt_31 rfl ⟨by rw [hst], hFJ27, by rw [hst]; exact HJ27, by rw [hst]; exact LI.fr hAJ27⟩
set_option maxRecDepth 100000 in
set_option maxHeartbeats 4000000 in
theorem c_Reader_readPiece (l : Launch) (D : va_G) (Dt : Nat → ClassId) (b sz : Nat) (I : dz_Hp) (c : Nat) (S : Nat → sp_Ru) (RI : sp_RC b I c S) (i : Nat) (hi : i < 12) (m : Int) (h : Int → Int) (BI : sp_B b i I m h) (H : List Int) (HI : sp_H b I H) (f : Int) (hf : 0 ≤ f ∧ f < m) (hlen : (H ++ sp_pi h c S f).length ≤ 1200) : ly_M l D Dt b sz y_Reader_readPiece b_Reader_readPiece 5 none 7 [.ref (b + 78), .ref (b + (82 + 4 * i)), .int (dz_i f)] I (fun v I' => v = none ∧ sp_fr I I' (fun q => q = b + 78 ∨ q = b + 79) ∧ sp_H b I' (H ++ sp_pi h c S f)) := by
  refine ly_enter R_Reader (by decide) rfl (Nat.le_of_ble_eq_true rfl) (ly_cat _ 0 rfl) (fun κ x => ?_)
  have hN := ly_N x
  have hm9 := BI.2.1
  obtain ⟨e1, e2, e3, e4⟩ := sp_run_spec (sp_nb h) 300 f
  change f ≤ sp_ep h f at e1
  have e5 : sp_ep h f ≤ m := by
    by_cases hc : sp_ep h f ≤ m
    · exact hc
    · have h9 := e3 m (by omega) (by show m < sp_ep h f; omega)
      exact absurd (BI.out (j := m) (by omega)) (of_decide_eq_true h9)
  obtain ⟨g1, g2, g3, g4⟩ := sp_run_spec (sp_is32 h) 300 f
  change f ≤ sp_cs h f at g1
  have g5 : sp_cs h f ≤ m := by
    by_cases hc : sp_cs h f ≤ m
    · exact hc
    · have h9 := g3 m (by omega) (by show m < sp_cs h f; omega)
      have h8 := of_decide_eq_true h9
      have := BI.out (j := m) (by omega)
      omega
  have loop : ∀ (k : Nat) (q nx9 : Int) (fu : Nat) (H2 : List Int) (J : dz_Hp) (nu nx rs : Bool), (f ≤ q ∧ q + (k : Int) = (sp_ep h f)) → (q ≤ nx9 ∧ nx9 ≤ 1000) → ((sp_ep h f) - nx9 ≤ (fu : Int)) → (sp_fr I J (fun q => q = b + 78 ∨ q = b + 79)) → (sp_B b i J m h) → (sp_RC b J c S) → (sp_H b J H2) → (sp_FL b J (sp_cs h f) (sp_ep h f) nu nx rs) → (H2 ++ sp_pl h c S (sp_cs h f) (sp_ep h f) fu nx9 nu nx rs = H ++ sp_pi h c S f) → ly_V κ b sz J 40 [(0, .ref (b + 78)), (1, .ref (b + (82 + 4 * i))), (2, .int (dz_i f)), (3, .int (dz_i nx9)), (4, .int (dz_i q))] [] := by
    intro k
    induction k with
    | zero =>
      intro q nx9 fu H2 J nu nx rs hq hnx hfu FJ BJ RJ HJ LJ hS
      refine dz_iload x.1 4 d_Reader_readPiece_40 rfl ?_
      refine dz_aload_n x.1 0 d_Reader_readPiece_42 rfl rfl ?_
      refine dz_geti (z := (sp_ep h f)) x.1 (ly_Reader b) fl_Reader_48 d_Reader_readPiece_43 LJ.2.1 ?_
      refine dz_icmp_ge (tgt := 72) x.1 d_Reader_readPiece_46 (by decide) (by omega) (by omega) (fun hc46 => ?_) (fun hc46 => by exfalso; omega)
      exact ly_vret x d_Reader_readPiece_72 ⟨rfl, FJ, by rw [sp_pl_nil (by omega), List.append_nil] at hS; rw [← hS]; exact HJ⟩
    | succ k ih =>
      intro q nx9 fu H2 J nu nx rs hq hnx hfu FJ BJ RJ HJ LJ hS
      refine dz_iload x.1 4 d_Reader_readPiece_40 rfl ?_
      refine dz_aload_n x.1 0 d_Reader_readPiece_42 rfl rfl ?_
      refine dz_geti (z := (sp_ep h f)) x.1 (ly_Reader b) fl_Reader_48 d_Reader_readPiece_43 LJ.2.1 ?_
      refine dz_icmp_ge (tgt := 72) x.1 d_Reader_readPiece_46 (by decide) (by omega) (by omega) (fun hc46 => by exfalso; omega) (fun hc46 => ?_)
      refine dz_iload x.1 4 d_Reader_readPiece_49 rfl ?_
      refine dz_iload_n x.1 3 d_Reader_readPiece_51 rfl rfl ?_
      refine dz_icmp_ne (tgt := 66) x.1 d_Reader_readPiece_52 (by decide) (by omega) (by omega) (fun hc52 => ?_) (fun hc52 => ?_)
      · refine dz_iinc (z := q + 1) (ls' := [(0, .ref (b + 78)), (1, .ref (b + (82 + 4 * i))), (2, .int (dz_i f)), (3, .int (dz_i nx9)), (4, .int (dz_i (q + 1)))]) x.1 4 d_Reader_readPiece_66 rfl hN (by decide) (by omega) rfl ?_
        refine dz_goto (tgt := 40) x.1 d_Reader_readPiece_69 (by decide) ?_
        exact ih (q + 1) nx9 fu H2 J nu nx rs (by omega) (by omega) hfu FJ BJ RJ HJ LJ hS
      · rw [← hc52] at hS
        have hpl := sp_pl_step (h := h) (c := c) (S := S) (bg := (sp_cs h f)) (e := (sp_ep h f)) (p := q) (nu := nu) (nx := nx) (rs := rs) (by omega) (k := fu) (by omega)
        have hT2 := hlen
        refine dz_iload x.1 4 d_Reader_readPiece_55 rfl ?_
        refine dz_aload_n x.1 0 d_Reader_readPiece_57 rfl rfl ?_
        refine dz_aload_n x.1 1 d_Reader_readPiece_58 rfl rfl ?_
        refine dz_iload x.1 4 d_Reader_readPiece_59 rfl ?_
        refine ly_callV (rest := [.int (dz_i q)]) x cl_Reader_61 (c_Reader_readCellsAt l D Dt b sz J c S RJ i hi m h BJ H2 HJ (sp_cs h f) (sp_ep h f) nu nx rs LJ q (by omega) (by omega) (by rw [hpl] at hS; rw [← hS] at hT2; simp only [List.length_append] at hT2; omega)) (by decide) (ly_Reader b) rfl rfl rfl rfl (Nat.le_of_ble_eq_true rfl) d_Reader_readPiece_61 (fun v J61 hp61 => ?_)
        obtain ⟨rfl, hF61, HJ61, LJ61⟩ := hp61
        have FJ61 : sp_fr I J61 (fun q => q = b + 78 ∨ q = b + 79) := FJ.tr hF61 (fun q h => h)
        have BJ61 : sp_B b i J61 m h := BJ.fr (hF61 _ (fun h => by rcases h with h | h <;> omega)) (hF61 _ (fun h => by rcases h with h | h <;> omega))
        have RJ61 : sp_RC b J61 c S := RJ.fr (by rw [hF61 _ (fun h => by rcases h with h | h <;> omega)]) (fun q h1 h2 => hF61 _ (fun h => by rcases h with h | h <;> omega))
        have hadv := sp_rd_adv (h := h) (bg := (sp_cs h f)) (e := (sp_ep h f)) (p := q) (nu := nu) (nx := nx) (rs := rs) RI.wf
        show ly_V κ b sz J61 64 [(0, .ref (b + 78)), (1, .ref (b + (82 + 4 * i))), (2, .int (dz_i f)), (3, .int (dz_i nx9)), (4, .int (dz_i q))] [.int (dz_i ((sp_rd h c S (sp_cs h f) (sp_ep h f) nu nx rs q).2.1)), .int (dz_i q)]
        refine dz_iadd (z := q + (sp_rd h c S (sp_cs h f) (sp_ep h f) nu nx rs q).2.1) x.1 d_Reader_readPiece_64 (by omega) ?_
        refine dz_istore_n (ls' := [(0, .ref (b + 78)), (1, .ref (b + (82 + 4 * i))), (2, .int (dz_i f)), (3, .int (dz_i (q + (sp_rd h c S (sp_cs h f) (sp_ep h f) nu nx rs q).2.1))), (4, .int (dz_i q))]) x.1 d_Reader_readPiece_65 rfl hN (by decide) rfl ?_
        refine dz_iinc (z := q + 1) (ls' := [(0, .ref (b + 78)), (1, .ref (b + (82 + 4 * i))), (2, .int (dz_i f)), (3, .int (dz_i (q + (sp_rd h c S (sp_cs h f) (sp_ep h f) nu nx rs q).2.1))), (4, .int (dz_i (q + 1)))]) x.1 4 d_Reader_readPiece_66 rfl hN (by decide) (by omega) rfl ?_
        refine dz_goto (tgt := 40) x.1 d_Reader_readPiece_69 (by decide) ?_
        exact ih (q + 1) _ (fu - 1) (H2 ++ (sp_rd h c S (sp_cs h f) (sp_ep h f) nu nx rs q).1) J61 _ _ _ (by omega) (by omega) (by omega) FJ61 BJ61 RJ61 HJ61 LJ61 (by rw [← hS, hpl, List.append_assoc])
  show ly_V κ b sz I 0 [(0, .ref (b + 78)), (1, .ref (b + (82 + 4 * i))), (2, .int (dz_i f))] []
  refine dz_aload_n x.1 0 d_Reader_readPiece_0 rfl rfl ?_
  refine dz_iload_n x.1 2 d_Reader_readPiece_1 rfl rfl ?_
  refine dz_aload_n x.1 1 d_Reader_readPiece_2 rfl rfl ?_
  refine dz_iload_n x.1 2 d_Reader_readPiece_3 rfl rfl ?_
  refine ly_callS (rest := [.int (dz_i f), .ref (b + 78)]) x cl_Reader_38 (c_Reader_capitalSignsAt l D Dt b sz I i hi m h BI f (by omega)) (by decide) rfl rfl (Nat.le_of_ble_eq_true rfl) d_Reader_readPiece_4 (fun v I' hp4 => ?_)
  obtain ⟨rfl, hp4I⟩ := hp4
  have hp4I := hp4I.symm
  subst hp4I
  show ly_V κ b sz I 7 [(0, .ref (b + 78)), (1, .ref (b + (82 + 4 * i))), (2, .int (dz_i f))] [.int (dz_i ((sp_cs h f) - f)), .int (dz_i f), .ref (b + 78)]
  refine dz_iadd (z := (sp_cs h f)) x.1 d_Reader_readPiece_7 (by omega) ?_
  refine dz_puti x.1 (ly_Reader b) fl_Reader_42 fp_Reader_3 d_Reader_readPiece_8 ?_
  refine dz_aload_n x.1 0 d_Reader_readPiece_11 rfl rfl ?_
  refine dz_aload_n x.1 1 d_Reader_readPiece_12 rfl rfl ?_
  refine dz_iload_n x.1 2 d_Reader_readPiece_13 rfl rfl ?_
  refine ly_callV (rest := [.ref (b + 78)]) x cl_Reader_45 (c_Block_endOfPiece l D Dt b sz (dz_up I (b + 78) 3 (sp_cs h f)) i hi m h (BI.fr (by (repeat rw [dz_up_n _ _ _ (by omega)])) (by (repeat rw [dz_up_n _ _ _ (by omega)]))) f (by omega)) (by decide) (ly_Block b hi) rfl rfl rfl rfl (Nat.le_of_ble_eq_true rfl) d_Reader_readPiece_14 (fun v I' hp14 => ?_)
  obtain ⟨rfl, hp14I⟩ := hp14
  have hp14I := hp14I.symm
  subst hp14I
  show ly_V κ b sz (dz_up I (b + 78) 3 (sp_cs h f)) 17 [(0, .ref (b + 78)), (1, .ref (b + (82 + 4 * i))), (2, .int (dz_i f))] [.int (dz_i (sp_ep h f)), .ref (b + 78)]
  refine dz_puti x.1 (ly_Reader b) fl_Reader_48 fp_Reader_4 d_Reader_readPiece_17 ?_
  refine dz_aload_n x.1 0 d_Reader_readPiece_20 rfl rfl ?_
  refine dz_iconst x.1 d_Reader_readPiece_21 ?_
  refine dz_putz x.1 (ly_Reader b) fl_Reader_51 fp_Reader_5 (by omega) d_Reader_readPiece_22 ?_
  refine dz_aload_n x.1 0 d_Reader_readPiece_25 rfl rfl ?_
  refine dz_iconst x.1 d_Reader_readPiece_26 ?_
  refine dz_putz x.1 (ly_Reader b) fl_Reader_55 fp_Reader_6 (by omega) d_Reader_readPiece_27 ?_
  refine dz_aload_n x.1 0 d_Reader_readPiece_30 rfl rfl ?_
  refine dz_iconst x.1 d_Reader_readPiece_31 ?_
  refine dz_putz x.1 (ly_Reader b) fl_Reader_58 fp_Reader_7 (by omega) d_Reader_readPiece_32 ?_
  refine dz_iload_n x.1 2 d_Reader_readPiece_35 rfl rfl ?_
  refine dz_istore_n (ls' := [(0, .ref (b + 78)), (1, .ref (b + (82 + 4 * i))), (2, .int (dz_i f)), (3, .int (dz_i f))]) x.1 d_Reader_readPiece_36 rfl hN (by decide) rfl ?_
  refine dz_iload_n x.1 2 d_Reader_readPiece_37 rfl rfl ?_
  refine dz_istore (ls' := [(0, .ref (b + 78)), (1, .ref (b + (82 + 4 * i))), (2, .int (dz_i f)), (3, .int (dz_i f)), (4, .int (dz_i f))]) x.1 d_Reader_readPiece_38 hN (by decide) rfl ?_
  exact loop ((sp_ep h f) - f).toNat f f 300 H (dz_up (dz_up (dz_up (dz_up (dz_up I (b + 78) 3 (sp_cs h f)) (b + 78) 4 (sp_ep h f)) (b + 78) 5 0) (b + 78) 6 0) (b + 78) 7 0) false false false (by omega) (by omega) (by omega) (((((sp_fr.rf.up (Or.inl rfl)).up (Or.inl rfl)).up (Or.inl rfl)).up (Or.inl rfl)).up (Or.inl rfl)) (BI.fr (by (repeat rw [dz_up_n _ _ _ (by omega)])) (by (repeat rw [dz_up_n _ _ _ (by omega)]))) (RI.fr (by (repeat rw [dz_up_n _ _ _ (by omega)])) (fun q h1 h2 => by (repeat rw [dz_up_n _ _ _ (by omega)]))) (HI.fr (by (repeat (first | rw [dz_up_s] | rw [dz_up_k _ _ _ (by decide)]))) (by (repeat rw [dz_up_n _ _ _ (by omega)]))) ⟨by (repeat (first | rw [dz_up_s] | rw [dz_up_k _ _ _ (by decide)])), by (repeat (first | rw [dz_up_s] | rw [dz_up_k _ _ _ (by decide)])), by (repeat (first | rw [dz_up_s] | rw [dz_up_k _ _ _ (by decide)])); rfl, by (repeat (first | rw [dz_up_s] | rw [dz_up_k _ _ _ (by decide)])); rfl, by (repeat (first | rw [dz_up_s] | rw [dz_up_k _ _ _ (by decide)])); rfl⟩ rfl
set_option maxRecDepth 100000 in
set_option maxHeartbeats 4000000 in
theorem c_Reader_readBlock (l : Launch) (D : va_G) (Dt : Nat → ClassId) (b sz : Nat) (I : dz_Hp) (c : Nat) (S : Nat → sp_Ru) (RI : sp_RC b I c S) (i : Nat) (hi : i < 12) (m : Int) (h : Int → Int) (BI : sp_B b i I m h) (hlen : (sp_bk h c S m.toNat 0).length ≤ 1200) : ly_M l D Dt b sz y_Reader_readBlock b_Reader_readBlock 3 none 8 [.ref (b + 78), .ref (b + (82 + 4 * i))] I (fun v I' => v = none ∧ sp_fr I I' (fun q => q = b + 78 ∨ q = b + 79) ∧ sp_H b I' (sp_bk h c S m.toNat 0)) := by
  refine ly_enter R_Reader (by decide) rfl (Nat.le_of_ble_eq_true rfl) (ly_cat _ 0 rfl) (fun κ x => ?_)
  have hN := ly_N x
  have hm9 := BI.2.1
  have loop : ∀ (k : Nat) (q : Int) (H2 : List Int) (J : dz_Hp), (0 ≤ q ∧ q + (k : Int) = m) → (sp_fr I J (fun q => q = b + 78 ∨ q = b + 79)) → (sp_B b i J m h) → (sp_RC b J c S) → (sp_H b J H2) → (H2 ++ sp_bk h c S k q = sp_bk h c S m.toNat 0) → ly_V κ b sz J 7 [(0, .ref (b + 78)), (1, .ref (b + (82 + 4 * i))), (2, .int (dz_i q))] [] := by
    intro k
    induction k with
    | zero =>
      intro q H2 J hq FJ BJ RJ HJ hS
      refine dz_iload_n x.1 2 d_Reader_readBlock_7 rfl rfl ?_
      refine dz_aload_n x.1 1 d_Reader_readBlock_8 rfl rfl ?_
      refine dz_geti (z := m) x.1 (ly_Block b hi) fl_Reader_23 d_Reader_readBlock_9 BJ.1 ?_
      refine dz_icmp_ge (tgt := 54) x.1 d_Reader_readBlock_12 (by decide) (by omega) (by omega) (fun hc12 => ?_) (fun hc12 => by exfalso; omega)
      exact ly_vret x d_Reader_readBlock_54 ⟨rfl, FJ, by rw [← hS]; simpa [sp_bk] using HJ⟩
    | succ k ih =>
      intro q H2 J hq FJ BJ RJ HJ hS
      refine dz_iload_n x.1 2 d_Reader_readBlock_7 rfl rfl ?_
      refine dz_aload_n x.1 1 d_Reader_readBlock_8 rfl rfl ?_
      refine dz_geti (z := m) x.1 (ly_Block b hi) fl_Reader_23 d_Reader_readBlock_9 BJ.1 ?_
      refine dz_icmp_ge (tgt := 54) x.1 d_Reader_readBlock_12 (by decide) (by omega) (by omega) (fun hc12 => by exfalso; omega) (fun hc12 => ?_)
      refine dz_aload_n x.1 1 d_Reader_readBlock_15 rfl rfl ?_
      refine dz_iload_n x.1 2 d_Reader_readBlock_16 rfl rfl ?_
      refine ly_callV (rest := []) x cl_Reader_26 (c_caAt l D Dt b sz J i hi m h BJ q (by omega)) (by decide) (ly_Block b hi) rfl rfl rfl rfl (Nat.le_of_ble_eq_true rfl) d_Reader_readBlock_17 (fun v I' hp17 => ?_)
      obtain ⟨rfl, hp17I⟩ := hp17
      have hp17I := hp17I.symm
      subst hp17I
      have hhp17 := BJ.rng q
      show ly_V κ b sz J 20 [(0, .ref (b + 78)), (1, .ref (b + (82 + 4 * i))), (2, .int (dz_i q))] [.int (dz_i (h q))]
      refine dz_if_ne (tgt := 32) x.1 d_Reader_readBlock_20 (by decide) (by omega) (fun hc20 => ?_) (fun hc20 => ?_)
      · refine dz_aload_n x.1 1 d_Reader_readBlock_32 rfl rfl ?_
        refine dz_iload_n x.1 2 d_Reader_readBlock_33 rfl rfl ?_
        refine dz_iconst x.1 d_Reader_readBlock_34 ?_
        refine dz_isub (z := q - 1) x.1 d_Reader_readBlock_35 (by omega) ?_
        refine ly_callV (rest := []) x cl_Reader_26 (c_caAt l D Dt b sz J i hi m h BJ (q - 1) (by omega)) (by decide) (ly_Block b hi) rfl rfl rfl rfl (Nat.le_of_ble_eq_true rfl) d_Reader_readBlock_36 (fun v I' hp36 => ?_)
        obtain ⟨rfl, hp36I⟩ := hp36
        have hp36I := hp36I.symm
        subst hp36I
        have hhp36 := BJ.rng (q - 1)
        show ly_V κ b sz J 39 [(0, .ref (b + 78)), (1, .ref (b + (82 + 4 * i))), (2, .int (dz_i q))] [.int (dz_i (h (q - 1)))]
        refine dz_if_ne (tgt := 48) x.1 d_Reader_readBlock_39 (by decide) (by omega) (fun hc39 => ?_) (fun hc39 => ?_)
        · refine dz_iinc (z := q + 1) (ls' := [(0, .ref (b + 78)), (1, .ref (b + (82 + 4 * i))), (2, .int (dz_i (q + 1)))]) x.1 2 d_Reader_readBlock_48 rfl hN (by decide) (by omega) rfl ?_
          refine dz_goto (tgt := 7) x.1 d_Reader_readBlock_51 (by decide) ?_
          have hbk : sp_bk h c S (k + 1) q = ([]) ++ sp_bk h c S k (q + 1) := by simp only [sp_bk]; rw [if_neg (by omega), if_neg (by omega)]
          have hT2 := hlen
          exact ih (q + 1) H2 J (by omega) FJ BJ RJ HJ (by rw [← hS, hbk]; rfl)
        · have hbk : sp_bk h c S (k + 1) q = (sp_pi h c S q) ++ sp_bk h c S k (q + 1) := by simp only [sp_bk]; rw [if_neg (by omega), if_pos (by omega)]
          have hT2 := hlen
          refine dz_aload_n x.1 0 d_Reader_readBlock_42 rfl rfl ?_
          refine dz_aload_n x.1 1 d_Reader_readBlock_43 rfl rfl ?_
          refine dz_iload_n x.1 2 d_Reader_readBlock_44 rfl rfl ?_
          refine ly_callV (rest := []) x cl_Reader_34 (c_Reader_readPiece l D Dt b sz J c S RJ i hi m h BJ H2 HJ q (by omega) (by rw [hbk] at hS; rw [← hS] at hT2; simp only [List.length_append] at hT2 ⊢; omega)) (by decide) (ly_Reader b) rfl rfl rfl rfl (Nat.le_of_ble_eq_true rfl) d_Reader_readBlock_45 (fun v J45 hp45 => ?_)
          obtain ⟨rfl, hF45, HJ45⟩ := hp45
          have FJ45 : sp_fr I J45 (fun q => q = b + 78 ∨ q = b + 79) := FJ.tr hF45 (fun q h => h)
          have BJ45 : sp_B b i J45 m h := BJ.fr (hF45 _ (fun h => by rcases h with h | h <;> omega)) (hF45 _ (fun h => by rcases h with h | h <;> omega))
          have RJ45 : sp_RC b J45 c S := RJ.fr (by rw [hF45 _ (fun h => by rcases h with h | h <;> omega)]) (fun q h1 h2 => hF45 _ (fun h => by rcases h with h | h <;> omega))
          show ly_V κ b sz J45 48 [(0, .ref (b + 78)), (1, .ref (b + (82 + 4 * i))), (2, .int (dz_i q))] []
          refine dz_iinc (z := q + 1) (ls' := [(0, .ref (b + 78)), (1, .ref (b + (82 + 4 * i))), (2, .int (dz_i (q + 1)))]) x.1 2 d_Reader_readBlock_48 rfl hN (by decide) (by omega) rfl ?_
          refine dz_goto (tgt := 7) x.1 d_Reader_readBlock_51 (by decide) ?_
          exact ih (q + 1) (H2 ++ (sp_pi h c S q)) J45 (by omega) FJ45 BJ45 RJ45 HJ45 (by rw [← hS, hbk, List.append_assoc])
      · have hbk : sp_bk h c S (k + 1) q = ([32]) ++ sp_bk h c S k (q + 1) := by simp only [sp_bk]; rw [if_pos (by omega)]
        have hT2 := hlen
        refine dz_aload_n x.1 0 d_Reader_readBlock_23 rfl rfl ?_
        refine dz_bipush x.1 d_Reader_readBlock_24 (by decide) ?_
        refine ly_callV (rest := []) x cl_Reader_30 (c_Reader_put l D Dt b sz J H2 HJ (by rw [hbk] at hS; rw [← hS] at hT2; simp only [List.length_append, List.length_cons, List.length_nil] at hT2; omega) 32 (by omega)) (by decide) (ly_Reader b) rfl rfl rfl rfl (Nat.le_of_ble_eq_true rfl) d_Reader_readBlock_26 (fun v J26 hp26 => ?_)
        obtain ⟨rfl, hF26, -, HJ26⟩ := hp26
        have FJ26 : sp_fr I J26 (fun q => q = b + 78 ∨ q = b + 79) := FJ.tr hF26 (fun q h => h)
        have BJ26 : sp_B b i J26 m h := BJ.fr (hF26 _ (fun h => by rcases h with h | h <;> omega)) (hF26 _ (fun h => by rcases h with h | h <;> omega))
        have RJ26 : sp_RC b J26 c S := RJ.fr (by rw [hF26 _ (fun h => by rcases h with h | h <;> omega)]) (fun q h1 h2 => hF26 _ (fun h => by rcases h with h | h <;> omega))
        show ly_V κ b sz J26 29 [(0, .ref (b + 78)), (1, .ref (b + (82 + 4 * i))), (2, .int (dz_i q))] []
        refine dz_goto (tgt := 48) x.1 d_Reader_readBlock_29 (by decide) ?_
        refine dz_iinc (z := q + 1) (ls' := [(0, .ref (b + 78)), (1, .ref (b + (82 + 4 * i))), (2, .int (dz_i (q + 1)))]) x.1 2 d_Reader_readBlock_48 rfl hN (by decide) (by omega) rfl ?_
        refine dz_goto (tgt := 7) x.1 d_Reader_readBlock_51 (by decide) ?_
        exact ih (q + 1) (H2 ++ ([32])) J26 (by omega) FJ26 BJ26 RJ26 HJ26 (by rw [← hS, hbk, List.append_assoc])
  show ly_V κ b sz I 0 [(0, .ref (b + 78)), (1, .ref (b + (82 + 4 * i)))] []
  refine dz_aload_n x.1 0 d_Reader_readBlock_0 rfl rfl ?_
  refine dz_iconst x.1 d_Reader_readBlock_1 ?_
  refine dz_puti x.1 (ly_Reader b) fl_Reader_19 fp_Reader_2 d_Reader_readBlock_2 ?_
  refine dz_iconst x.1 d_Reader_readBlock_5 ?_
  refine dz_istore_n (ls' := [(0, .ref (b + 78)), (1, .ref (b + (82 + 4 * i))), (2, .int (dz_i 0))]) x.1 d_Reader_readBlock_6 rfl hN (by decide) rfl ?_
  exact loop m.toNat 0 [] (dz_up I (b + 78) 2 0) (by omega) (sp_fr.rf.up (Or.inl rfl)) (BI.fr (by (repeat rw [dz_up_n _ _ _ (by omega)])) (by (repeat rw [dz_up_n _ _ _ (by omega)]))) (RI.fr (by (repeat rw [dz_up_n _ _ _ (by omega)])) (fun q h1 h2 => by (repeat rw [dz_up_n _ _ _ (by omega)]))) ⟨dz_up_s _ _ _ _, by simp, fun j e he => by simp at he, fun e he => by simp at he⟩ rfl
