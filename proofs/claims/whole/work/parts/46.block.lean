theorem sp_CL.blk {b : Nat} {I J : dz_Hp} {W T n : Int} {g : Int → Int} {c : Nat} {S : Nat → sp_Ru} {w : Int} {nb : Nat} {Bk : Nat → sp_Bk} {H : List Int} (C : sp_CL b I W T n g c S w nb Bk H) (hnb : nb < 12) {y : sp_Bk} (hy : sp_bok y) {X : Int × Int} (hX : X = sp_x0 T y.1 ((sp_bl W y).length : Int) ((sp_bs W T Bk nb).1, (sp_bs W T Bk nb).2.1)) {Y : Int × Int × Int} (hY : Y = sp_pu T (sp_bl W y).length (X.1, X.2, (sp_bs W T Bk nb).2.2))
    (hF : sp_fr I J (fun q => q = b + 77 ∨ q = b + 80 ∨ (b + (82 + 4 * nb) ≤ q ∧ q ≤ b + (85 + 4 * nb)))) (h0 : J (b + (82 + 4 * nb)) 0 = y.1) (hO : sp_O b nb J y.2) (hL : sp_L b nb J (sp_bl W y)) (hK : sp_K b J W T (nb : Int) Y.1 Y.2.1 Y.2.2)
    (hp : 0 < (sp_bl W y).length → J (b + (82 + 4 * nb)) 7 = (sp_tp T X).1 ∧ J (b + (82 + 4 * nb)) 8 = (sp_tp T X).2) (hz : (sp_bl W y).length = 0 → J (b + (82 + 4 * nb)) 7 = I (b + (82 + 4 * nb)) 7 ∧ J (b + (82 + 4 * nb)) 8 = I (b + (82 + 4 * nb)) 8) :
    sp_CL b (dz_up (dz_up J (b + 80) 4 ((nb : Int) + 1)) (b + 1) 1 0) W T 0 (fun _ => 0) c S w (nb + 1) (sp_setB Bk nb y) H := by
  obtain ⟨a1, a2, a3, a4, a5, a6, a7, a8, a9⟩ := C
  have hbs := sp_bs_rng a1.1 a1.2.1 nb (fun i hi => (a7 i hi).2.2.2.2)
  have k : ∀ q, q < b + 77 → J q = I q := fun q hq => hF q (fun h => by rcases h with h | h | h <;> omega)
  have k2 : ∀ j, j < 12 → j ≠ nb → ∀ q, b + (82 + 4 * j) ≤ q → q ≤ b + (85 + 4 * j) → J q = I q := fun j hj hne q h1 h2 => hF q (fun h => by rcases h with h | h | h <;> omega)
  have u : ∀ q, q ≠ b + 1 → q ≠ b + 80 → dz_up (dz_up J (b + 80) 4 ((nb : Int) + 1)) (b + 1) 1 0 q = J q := fun q h1 h2 => by rw [dz_up_n _ _ _ h1, dz_up_n _ _ _ h2]
  have e1 : ∀ i, i < nb → sp_setB Bk nb y i = Bk i := fun i hi => if_neg (by omega)
  have e2 : sp_setB Bk nb y nb = y := if_pos rfl
  have e3 : sp_bs W T (sp_setB Bk nb y) nb = sp_bs W T Bk nb := sp_bs_congr nb e1
  have e4 : sp_bs W T (sp_setB Bk nb y) (nb + 1) = Y := by
    simp only [sp_bs]; rw [e3, e2, ← hX, ← hY]
  have e5 : sp_pp W T (sp_setB Bk nb y) nb = sp_tp T X := by
    unfold sp_pp sp_bx; rw [e3, e2, ← hX]
  refine ⟨a1, sp_T_0, ?_, ?_, ?_, by omega, fun j hj => ?_, fun j hj => ?_, ?_⟩
  · exact a3.fr (by rw [u _ (by omega) (by omega), k _ (by omega)]) (fun q h1 h2 => by rw [u _ (by omega) (by omega), k _ (by omega)])
  · rw [u _ (by omega) (by omega), k _ (by omega)]; exact a4
  · rw [e4]
    obtain ⟨c1, c2, c3, c4, c5, c6, c7⟩ := hK
    refine ⟨?_, ?_, ?_, ?_, ?_, ?_, ?_⟩ <;> rw [dz_up_n _ _ _ (by omega)]
    · rw [dz_up_k _ _ _ (by decide)]; exact c1
    · rw [dz_up_k _ _ _ (by decide)]; exact c2
    · rw [dz_up_k _ _ _ (by decide)]; exact c3
    · rw [dz_up_s]; omega
    · rw [dz_up_k _ _ _ (by decide)]; exact c5
    · rw [dz_up_k _ _ _ (by decide)]; exact c6
    · rw [dz_up_k _ _ _ (by decide)]; exact c7
  · by_cases e : j = nb
    · subst e
      unfold sp_CB
      rw [e2, e5]
      refine ⟨by rw [u _ (by omega) (by omega)]; exact h0, hO.fr (by rw [u _ (by omega) (by omega)]) (u _ (by omega) (by omega)), hL.fr (by rw [u _ (by omega) (by omega)]) (by rw [u _ (by omega) (by omega)]) (u _ (by omega) (by omega)) (u _ (by omega) (by omega)), ?_, hy⟩
      rw [u _ (by omega) (by omega)]; exact hp
    · have hj2 : j < nb := by omega
      have h9 := (a7 j hj2).fr (J := dz_up (dz_up J (b + 80) 4 ((nb : Int) + 1)) (b + 1) 1 0) (by rw [u _ (by omega) (by omega)]; exact k2 j (by omega) e _ (by omega) (by omega)) (by rw [u _ (by omega) (by omega)]; exact k2 j (by omega) e _ (by omega) (by omega)) (by rw [u _ (by omega) (by omega)]; exact k2 j (by omega) e _ (by omega) (by omega)) (by rw [u _ (by omega) (by omega)]; exact k2 j (by omega) e _ (by omega) (by omega))
      unfold sp_CB at h9 ⊢
      rw [e1 j hj2, sp_pp_congr (fun i hi => e1 i (by omega))]
      exact h9
  · rw [u _ (by omega) (by omega)]
    by_cases e : j = nb
    · subst e
      by_cases hl : 0 < (sp_bl W y).length
      · have h5 := sp_pp_rng a1.1 a1.2.1 (Bk := sp_setB Bk j y) (j := j) (fun i hi => by rw [e1 i hi]; exact (a7 i hi).2.2.2.2)
        rw [e5] at h5
        rw [(hp hl).1, (hp hl).2]
        omega
      · rw [(hz (by omega)).1, (hz (by omega)).2]; exact a8 j hj
    · rw [k2 j hj e _ (by omega) (by omega)]; exact a8 j hj
  · exact a9.fr (by rw [u _ (by omega) (by omega), hF _ (fun h => by rcases h with h | h | h <;> omega)]) (by rw [u _ (by omega) (by omega), hF _ (fun h => by rcases h with h | h | h <;> omega)])
set_option maxRecDepth 100000 in
set_option maxHeartbeats 4000000 in
theorem c_DotBook_block (l : Launch) (hst9 : l.stackTraces = false) (D : va_G) (Dt : Nat → ClassId) (b sz : Nat) (I : dz_Hp) (W T n : Int) (g : Int → Int) (c : Nat) (S : Nat → sp_Ru) (w : Int) (nb : Nat) (Bk : Nat → sp_Bk) (H : List Int) (CI : sp_CL b I W T n g c S w nb Bk H) (k : Int) (hk : -2147483648 ≤ k ∧ k < 2147483648) : ly_CX l D Dt b sz y_DotBook_block b_DotBook_block 3 (some .int) 9 [.ref (b + 0), .int (dz_i k)] I (fun v I' => v = some (.int (dz_i ((nb : Int) + 1))) ∧ (0 ≤ k ∧ k ≤ 3 ∧ sp_cb n g = true) ∧ nb < 12 ∧ sp_CL b I' W T 0 (fun _ => 0) c S w (nb + 1) (sp_setB Bk nb (k, (if k = 3 then [] else sp_tr g c S n.toNat 0))) H ∧ sp_fr I I' (fun q => q < b + 130)) (fun E I' => ((E = xc_IAE ∧ ¬ (0 ≤ k ∧ k ≤ 3 ∧ sp_cb n g = true)) ∨ (E = xc_ISE ∧ (0 ≤ k ∧ k ≤ 3 ∧ sp_cb n g = true) ∧ 12 ≤ nb)) ∧ I' = I) := by
  refine ly_enterX hst9 R_DotBook (by decide) rfl (Nat.le_of_ble_eq_true rfl) (ly_cat _ 0 rfl) (fun κ x => ?_)
  have hN := ly_NX x
  obtain ⟨⟨hW, hT⟩, TI, RI, hw1, KI, hnb, HB, HP, HI⟩ := id CI
  have hn9 := TI.nn
  have hc24 := RI.2.1
  have hbs := sp_bs_rng hW hT.1 nb (fun i hi => (HB i hi).2.2.2.2)
  have hHl := HI.2.1
  show ly_V κ b sz I 0 [(0, .ref (b + 0)), (1, .int (dz_i k))] []
  refine dz_iload_n x.1 1 d_DotBook_block_0 rfl rfl ?_
  refine dz_if_lt (tgt := 19) x.1 d_DotBook_block_1 (by decide) (by omega) (fun hc1 => ?_) (fun hc1 => ?_)
  · exact ly_IAE x (by decide) d_DotBook_block_19 d_DotBook_block_22 d_DotBook_block_23 d_DotBook_block_26 ⟨Or.inl ⟨rfl, by first | omega | exact fun h => hc16 h.2.2⟩, rfl⟩
  · refine dz_iload_n x.1 1 d_DotBook_block_4 rfl rfl ?_
    refine dz_iconst x.1 d_DotBook_block_5 ?_
    refine dz_icmp_gt (tgt := 19) x.1 d_DotBook_block_6 (by decide) (by omega) (by omega) (fun hc6 => ?_) (fun hc6 => ?_)
    · exact ly_IAE x (by decide) d_DotBook_block_19 d_DotBook_block_22 d_DotBook_block_23 d_DotBook_block_26 ⟨Or.inl ⟨rfl, by first | omega | exact fun h => hc16 h.2.2⟩, rfl⟩
    · refine dz_aload_n x.1 0 d_DotBook_block_9 rfl rfl ?_
      refine dz_getr x.1 (ly_DotBook b) fl_DotBook_12 (lr_DotBook_0 b) d_DotBook_block_10 ?_
      refine ly_callVX (rest := []) x cl_DotBook_81 (c_canT l D Dt b sz I n g TI) (by decide) (ly_Typed b) rfl rfl rfl rfl (Nat.le_of_ble_eq_true rfl) d_DotBook_block_13 (fun v I' hp13 => ?_)
      obtain ⟨rfl, hp13I⟩ := hp13
      have hp13I := hp13I.symm
      subst hp13I
      show ly_V κ b sz I 16 [(0, .ref (b + 0)), (1, .int (dz_i k))] [.int (dz_i (if sp_cb n g = true then 1 else 0))]
      refine dz_if_ne (tgt := 27) x.1 d_DotBook_block_16 (by decide) (dz_br _) (fun hc16 => ?_) (fun hc16 => ?_)
      · have hc16 : sp_cb n g = true := dz_bt hc16
        refine dz_aload_n x.1 0 d_DotBook_block_27 rfl rfl ?_
        refine dz_getr x.1 (ly_DotBook b) fl_DotBook_55 (lr_DotBook_4 b) d_DotBook_block_28 ?_
        refine dz_geti (z := (nb : Int)) x.1 (ly_Book b) fl_DotBook_85 d_DotBook_block_31 KI.2.2.2.1 ?_
        refine dz_bipush x.1 d_DotBook_block_34 (by decide) ?_
        refine dz_icmp_lt (tgt := 47) x.1 d_DotBook_block_36 (by decide) (by omega) (by omega) (fun hc36 => ?_) (fun hc36 => ?_)
        · have hnb12 : nb < 12 := by omega
          have hcb : sp_cb n g = true := hc16
          have hOO : ((if k = 3 then [] else sp_tr g c S n.toNat 0) : List (Int × Int)).length ≤ 200 ∧ ∀ e ∈ ((if k = 3 then [] else sp_tr g c S n.toNat 0) : List (Int × Int)), (0 ≤ e.1 ∧ e.1 < 64) ∧ 0 ≤ e.2 ∧ e.2 ≤ 80 := by
            by_cases h3 : k = 3
            · rw [if_pos h3]; exact ⟨by simp, fun e he => by simp at he⟩
            · rw [if_neg h3]; exact sp_tr_len TI.tx RI.wf
          have k81 : ∀ (J : dz_Hp) (O : List (Int × Int)), (sp_fr I J (fun q => q = b + 77 ∨ q = b + (82 + 4 * nb) ∨ q = b + (83 + 4 * nb))) → (J (b + (82 + 4 * nb)) 0 = k) → (sp_O b nb J O) → (O = (if k = 3 then [] else sp_tr g c S n.toNat 0)) → (J (b + (82 + 4 * nb)) 7 = I (b + (82 + 4 * nb)) 7 ∧ J (b + (82 + 4 * nb)) 8 = I (b + (82 + 4 * nb)) 8) → ly_V κ b sz J 81 [(0, .ref (b + 0)), (1, .int (dz_i k)), (2, .ref (b + (82 + 4 * nb)))] [] := by
            intro J O FJ kJ OJ hO PJ
            have hy : sp_bok (k, O) := ⟨by show 0 ≤ k ∧ k ≤ 3; omega, by rw [hO]; exact hOO.1, by rw [hO]; exact hOO.2, fun h3 => by rw [hO]; exact if_pos h3⟩
            have KJ := KI.fr (J := J) (FJ _ (fun h => by rcases h with h | h | h <;> omega))
            refine dz_aload_n x.1 0 d_DotBook_block_81 rfl rfl ?_
            refine dz_getr x.1 (ly_DotBook b) fl_DotBook_55 (lr_DotBook_4 b) d_DotBook_block_82 ?_
            refine dz_aload_n x.1 2 d_DotBook_block_85 rfl rfl ?_
            refine ly_callVX (rest := []) x cl_DotBook_100 (c_Book_layOut l D Dt b sz J nb hnb12 k kJ (by omega) W T (nb : Int) _ _ _ KJ hW hT (by omega) hbs.2.1 (O.length : Int) (sp_oh O) (sp_O.toB (y := (k, O)) OJ hy) (sp_oh_out (by omega)) (sp_bl W (k, O)) (by rw [Int.toNat_natCast]; rfl) (sp_bl_ok hW hy.2.1).1 _ rfl _ rfl) (by decide) (ly_Book b) rfl rfl rfl rfl (Nat.le_of_ble_eq_true rfl) d_DotBook_block_86 (fun v J86 hp86 => ?_)
            obtain ⟨rfl, hF86, hA86, L86, K86, hpos, hzero⟩ := hp86
            show ly_V κ b sz J86 89 [(0, .ref (b + 0)), (1, .int (dz_i k)), (2, .ref (b + (82 + 4 * nb)))] []
            refine dz_aload_n x.1 0 d_DotBook_block_89 rfl rfl ?_
            refine dz_getr x.1 (ly_DotBook b) fl_DotBook_55 (lr_DotBook_4 b) d_DotBook_block_90 ?_
            refine dz_dup x.1 d_DotBook_block_93 rfl ?_
            refine dz_geti (z := (nb : Int)) x.1 (ly_Book b) fl_DotBook_85 d_DotBook_block_94 K86.2.2.2.1 ?_
            refine dz_iconst x.1 d_DotBook_block_97 ?_
            refine dz_iadd (z := (nb : Int) + 1) x.1 d_DotBook_block_98 (by omega) ?_
            refine dz_puti x.1 (ly_Book b) fl_DotBook_85 fp_Book_4 d_DotBook_block_99 ?_
            refine dz_aload_n x.1 0 d_DotBook_block_102 rfl rfl ?_
            refine dz_getr x.1 (ly_DotBook b) fl_DotBook_12 (lr_DotBook_0 b) d_DotBook_block_103 ?_
            refine dz_iconst x.1 d_DotBook_block_106 ?_
            refine dz_puti x.1 (ly_Typed b) fl_DotBook_62 fp_Typed_1 d_DotBook_block_107 ?_
            refine dz_aload_n x.1 0 d_DotBook_block_110 rfl rfl ?_
            refine dz_getr x.1 (ly_DotBook b) fl_DotBook_55 (lr_DotBook_4 b) d_DotBook_block_111 ?_
            refine dz_geti (z := (nb : Int) + 1) x.1 (ly_Book b) fl_DotBook_85 d_DotBook_block_114 (by rw [dz_up_n _ _ _ (by omega)]; exact dz_up_s _ _ _ _) ?_
            exact ly_iretX x d_DotBook_block_117 rfl ⟨rfl, ⟨by omega, by omega, hcb⟩, hnb12, by rw [← hO]; exact CI.blk hnb12 hy rfl rfl ((FJ.mono (fun q h => by rcases h with h | h | h; exact Or.inl h; exact Or.inr (Or.inr (by omega)); exact Or.inr (Or.inr (by omega)))).tr hF86 (fun q h => by rcases h with h | h | h | h; exact Or.inr (Or.inl h); exact Or.inr (Or.inr (by omega)); exact Or.inr (Or.inr (by omega)); exact Or.inr (Or.inr (by omega)))) (by rw [hA86 0 (by decide) (by decide) (by decide) (by decide)]; exact kJ) (OJ.fr (hA86 2 (by decide) (by decide) (by decide) (by decide)) (hF86 _ (fun h => by rcases h with h | h | h | h <;> omega))) L86 K86 hpos (fun h9 => by rw [(hzero h9).1, (hzero h9).2]; exact PJ), (((((FJ.mono (Q := fun q => q < b + 130) (fun q h => by rcases h with h | h | h <;> omega)).tr hF86 (fun q h => by rcases h with h | h | h | h <;> omega))).up (show b + 80 < b + 130 by omega)).up (show b + 1 < b + 130 by omega))⟩
          show ly_V κ b sz I 47 [(0, .ref (b + 0)), (1, .int (dz_i k))] []
          refine dz_aload_n x.1 0 d_DotBook_block_47 rfl rfl ?_
          refine dz_getr x.1 (ly_DotBook b) fl_DotBook_55 (lr_DotBook_4 b) d_DotBook_block_48 ?_
          refine dz_getr x.1 (ly_Book b) fl_DotBook_86 (lr_Book_3 b) d_DotBook_block_51 ?_
          refine dz_aload_n x.1 0 d_DotBook_block_54 rfl rfl ?_
          refine dz_getr x.1 (ly_DotBook b) fl_DotBook_55 (lr_DotBook_4 b) d_DotBook_block_55 ?_
          refine dz_geti (z := (nb : Int)) x.1 (ly_Book b) fl_DotBook_85 d_DotBook_block_58 KI.2.2.2.1 ?_
          refine dz_aald4 x.1 (ly_BlockArr b) (by decide) (by omega) (lr_BlockArr b hnb12) d_DotBook_block_61 ?_
          refine dz_astore_n (ls' := [(0, .ref (b + 0)), (1, .int (dz_i k)), (2, .ref (b + (82 + 4 * nb)))]) x.1 d_DotBook_block_62 rfl hN (by decide) rfl ?_
          refine dz_aload_n x.1 2 d_DotBook_block_63 rfl rfl ?_
          refine dz_iload_n x.1 1 d_DotBook_block_64 rfl rfl ?_
          refine ly_callVX (rest := []) x cl_DotBook_90 (c_Block_begin l D Dt b sz I nb hnb12 k) (by decide) (ly_Block b hnb12) rfl rfl rfl rfl (Nat.le_of_ble_eq_true rfl) d_DotBook_block_65 (fun v J65 hp65 => ?_)
          obtain ⟨rfl, hI65⟩ := hp65
          have F65 : sp_fr I J65 (fun q => q = b + (82 + 4 * nb)) := by rw [hI65]; exact ((sp_fr.rf (P := fun q => q = b + (82 + 4 * nb))).up rfl).up rfl
          have k65 : J65 (b + (82 + 4 * nb)) 0 = k := by rw [hI65, dz_up_k _ _ _ (by decide), dz_up_s]
          have O65 : sp_O b nb J65 [] := ⟨by rw [hI65, dz_up_s]; rfl, by simp, fun j e he => by simp at he⟩
          have P65 : J65 (b + (82 + 4 * nb)) 7 = I (b + (82 + 4 * nb)) 7 ∧ J65 (b + (82 + 4 * nb)) 8 = I (b + (82 + 4 * nb)) 8 := by rw [hI65]; exact ⟨by rw [dz_up_k _ _ _ (by decide), dz_up_k _ _ _ (by decide)], by rw [dz_up_k _ _ _ (by decide), dz_up_k _ _ _ (by decide)]⟩
          have T65 : sp_T b J65 n g := TI.fr (F65 _ (fun h => by have h : _ = _ := h; omega)) (F65 _ (fun h => by have h : _ = _ := h; omega))
          have R65 : sp_RC b J65 c S := RI.fr (by rw [F65 _ (fun h => by have h : _ = _ := h; omega)]) (fun q h1 h2 => F65 _ (fun h => by have h : _ = _ := h; omega))
          show ly_V κ b sz J65 68 [(0, .ref (b + 0)), (1, .int (dz_i k)), (2, .ref (b + (82 + 4 * nb)))] []
          refine dz_iload_n x.1 1 d_DotBook_block_68 rfl rfl ?_
          refine dz_iconst x.1 d_DotBook_block_69 ?_
          refine dz_icmp_eq (tgt := 81) x.1 d_DotBook_block_70 (by decide) (by omega) (by omega) (fun hc70 => ?_) (fun hc70 => ?_)
          · exact k81 J65 [] (F65.mono (fun q h => Or.inr (Or.inl h))) k65 O65 (if_pos hc70).symm P65
          · refine dz_aload_n x.1 0 d_DotBook_block_73 rfl rfl ?_
            refine dz_getr x.1 (ly_DotBook b) fl_DotBook_28 (lr_DotBook_2 b) d_DotBook_block_74 ?_
            refine dz_aload_n x.1 2 d_DotBook_block_77 rfl rfl ?_
            refine ly_callVX (rest := []) x cl_DotBook_96 (c_Translator_translateInto l D Dt b sz J65 n g T65 c S R65 nb hnb12 O65 (sp_tr_len TI.tx RI.wf).1) (by decide) (ly_Translator b) rfl rfl rfl rfl (Nat.le_of_ble_eq_true rfl) d_DotBook_block_78 (fun v J78 hp78 => ?_)
            obtain ⟨rfl, F78, A78, O78⟩ := hp78
            show ly_V κ b sz J78 81 [(0, .ref (b + 0)), (1, .int (dz_i k)), (2, .ref (b + (82 + 4 * nb)))] []
            exact k81 J78 _ ((F65.mono (fun q h => Or.inr (Or.inl h))).tr F78 (fun q h => h)) (by rw [A78 0 (by decide)]; exact k65) O78 (if_neg hc70).symm ⟨by rw [A78 7 (by decide)]; exact P65.1, by rw [A78 8 (by decide)]; exact P65.2⟩
        · exact ly_ISE x (by decide) d_DotBook_block_39 d_DotBook_block_42 d_DotBook_block_43 d_DotBook_block_46 ⟨Or.inr ⟨rfl, ⟨by omega, by omega, hc16⟩, by omega⟩, rfl⟩
      · have hc16 : ¬ (sp_cb n g = true) := dz_bf hc16
        exact ly_IAE x (by decide) d_DotBook_block_19 d_DotBook_block_22 d_DotBook_block_23 d_DotBook_block_26 ⟨Or.inl ⟨rfl, by first | omega | exact fun h => hc16 h.2.2⟩, rfl⟩
