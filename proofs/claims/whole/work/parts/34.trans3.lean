set_option maxRecDepth 100000 in
set_option maxHeartbeats 4000000 in
theorem c_Translator_putWord (l : Launch) (D : va_G) (Dt : Nat → ClassId) (b sz : Nat) (I : dz_Hp) (n : Int) (g : Int → Int) (TI : sp_T b I n g) (c : Nat) (S : Nat → sp_Ru) (RI : sp_RC b I c S) (bg e : Int) (a : Bool) (WI : sp_TR b I bg e a) (he : 0 ≤ bg ∧ bg ≤ e ∧ e ≤ 100) (i : Nat) (hi : i < 12) (O : List (Int × Int)) (OI : sp_O b i I O) (hlen : (O ++ (sp_wp a bg ++ sp_wl (sp_step g c S bg e a) e 100 bg)).length ≤ 200) : ly_M l D Dt b sz y_Translator_putWord b_Translator_putWord 4 none 7 [.ref (b + 77), .ref (b + (82 + 4 * i))] I (fun v I' => v = none ∧ sp_fr I I' (fun q => q = b + (82 + 4 * i) ∨ q = b + (83 + 4 * i)) ∧ (∀ k : Int, k ≠ 2 → I' (b + (82 + 4 * i)) k = I (b + (82 + 4 * i)) k) ∧ sp_O b i I' (O ++ (sp_wp a bg ++ sp_wl (sp_step g c S bg e a) e 100 bg))) := by
  refine ly_enter R_Translator (by decide) rfl (Nat.le_of_ble_eq_true rfl) (ly_cat _ 0 rfl) (fun κ x => ?_)
  have hN := ly_N x
  have FI : sp_fr I I (fun q => q = b + (82 + 4 * i) ∨ q = b + (83 + 4 * i)) := sp_fr.rf
  have AI : ∀ k : Int, k ≠ 2 → I (b + (82 + 4 * i)) k = I (b + (82 + 4 * i)) k := fun k hk => rfl
  have loop : ∀ (k : Nat) (q nx : Int) (f : Nat) (O2 : List (Int × Int)) (J : dz_Hp), (bg ≤ q ∧ q + (k : Int) = e) → (q ≤ nx ∧ nx ≤ 200) → (e - nx ≤ (f : Int)) → (sp_fr I J (fun q => q = b + (82 + 4 * i) ∨ q = b + (83 + 4 * i))) → (∀ k : Int, k ≠ 2 → J (b + (82 + 4 * i)) k = I (b + (82 + 4 * i)) k) → (sp_T b J n g) → (sp_RC b J c S) → (sp_TR b J bg e a) → (sp_O b i J O2) → (O2 ++ sp_wl (sp_step g c S bg e a) e f nx = O ++ (sp_wp a bg ++ sp_wl (sp_step g c S bg e a) e 100 bg)) → ly_V κ b sz J 37 [(0, .ref (b + 77)), (1, .ref (b + (82 + 4 * i))), (2, .int (dz_i nx)), (3, .int (dz_i q))] [] := by
    intro k
    induction k with
    | zero =>
      intro q nx f O2 J hq hnx hf FJ AJ TJ RJ WJ OJ hS
      refine dz_iload_n x.1 3 d_Translator_putWord_37 rfl rfl ?_
      refine dz_aload_n x.1 0 d_Translator_putWord_38 rfl rfl ?_
      refine dz_geti (z := e) x.1 (ly_Translator b) fl_Translator_69 d_Translator_putWord_39 WJ.2.1 ?_
      refine dz_icmp_ge (tgt := 65) x.1 d_Translator_putWord_42 (by decide) (by omega) (by omega) (fun hc42 => ?_) (fun hc42 => by exfalso; omega)
      exact ly_vret x d_Translator_putWord_65 ⟨rfl, FJ, AJ, by rw [sp_wl_nil (by omega), List.append_nil] at hS; rw [← hS]; exact OJ⟩
    | succ k ih =>
      intro q nx f O2 J hq hnx hf FJ AJ TJ RJ WJ OJ hS
      refine dz_iload_n x.1 3 d_Translator_putWord_37 rfl rfl ?_
      refine dz_aload_n x.1 0 d_Translator_putWord_38 rfl rfl ?_
      refine dz_geti (z := e) x.1 (ly_Translator b) fl_Translator_69 d_Translator_putWord_39 WJ.2.1 ?_
      refine dz_icmp_ge (tgt := 65) x.1 d_Translator_putWord_42 (by decide) (by omega) (by omega) (fun hc42 => by exfalso; omega) (fun hc42 => ?_)
      refine dz_iload_n x.1 3 d_Translator_putWord_45 rfl rfl ?_
      refine dz_iload_n x.1 2 d_Translator_putWord_46 rfl rfl ?_
      refine dz_icmp_ne (tgt := 59) x.1 d_Translator_putWord_47 (by decide) (by omega) (by omega) (fun hc47 => ?_) (fun hc47 => ?_)
      · refine dz_iinc (z := q + 1) (ls' := [(0, .ref (b + 77)), (1, .ref (b + (82 + 4 * i))), (2, .int (dz_i nx)), (3, .int (dz_i (q + 1)))]) x.1 3 d_Translator_putWord_59 rfl hN (by decide) (by omega) rfl ?_
        refine dz_goto (tgt := 37) x.1 d_Translator_putWord_62 (by decide) ?_
        exact ih (q + 1) nx f O2 J (by omega) (by omega) hf FJ AJ TJ RJ WJ OJ hS
      · rw [← hc47] at hS
        have hwl := sp_wl_step (F := (sp_step g c S bg e a)) (e := e) (p := q) (by omega) (k := f) (by omega)
        have hT2 := hlen
        refine dz_iload_n x.1 3 d_Translator_putWord_50 rfl rfl ?_
        refine dz_aload_n x.1 0 d_Translator_putWord_51 rfl rfl ?_
        refine dz_aload_n x.1 1 d_Translator_putWord_52 rfl rfl ?_
        refine dz_iload_n x.1 3 d_Translator_putWord_53 rfl rfl ?_
        refine ly_callV (rest := [.int (dz_i q)]) x cl_Translator_76 (c_Translator_putLettersAt l D Dt b sz J n g TJ c S RJ bg e a WJ he i hi O2 OJ q (by omega) (by rw [hwl] at hS; rw [← hS] at hT2; simp only [List.length_append] at hT2; omega)) (by decide) (ly_Translator b) rfl rfl rfl rfl (Nat.le_of_ble_eq_true rfl) d_Translator_putWord_54 (fun v J54 hp54 => ?_)
        obtain ⟨rfl, hFJ54, hAJ54, OJ54⟩ := hp54
        have FJ54 : sp_fr I J54 (fun q => q = b + (82 + 4 * i) ∨ q = b + (83 + 4 * i)) := FJ.tr hFJ54 (fun q h => h)
        have AJ54 : ∀ k : Int, k ≠ 2 → J54 (b + (82 + 4 * i)) k = I (b + (82 + 4 * i)) k := fun k hk => (hAJ54 k hk).trans (AJ k hk)
        have TJ54 : sp_T b J54 n g := TJ.fr (hFJ54 _ (fun h => by rcases h with h | h <;> omega)) (hFJ54 _ (fun h => by rcases h with h | h <;> omega))
        have RJ54 : sp_RC b J54 c S := RJ.fr (by rw [hFJ54 _ (fun h => by rcases h with h | h <;> omega)]) (fun q h1 h2 => hFJ54 _ (fun h => by rcases h with h | h <;> omega))
        have WJ54 : sp_TR b J54 bg e a := WJ.fr (hFJ54 _ (fun h => by rcases h with h | h <;> omega))
        have hs6 := sp_step_len (g := g) (bg := bg) (e := e) (a := a) (p := q) RI.wf
        show ly_V κ b sz J54 57 [(0, .ref (b + 77)), (1, .ref (b + (82 + 4 * i))), (2, .int (dz_i nx)), (3, .int (dz_i q))] [.int (dz_i ((sp_step g c S bg e a q).2)), .int (dz_i q)]
        refine dz_iadd (z := q + (sp_step g c S bg e a q).2) x.1 d_Translator_putWord_57 (by omega) ?_
        refine dz_istore_n (ls' := [(0, .ref (b + 77)), (1, .ref (b + (82 + 4 * i))), (2, .int (dz_i (q + (sp_step g c S bg e a q).2))), (3, .int (dz_i q))]) x.1 d_Translator_putWord_58 rfl hN (by decide) rfl ?_
        refine dz_iinc (z := q + 1) (ls' := [(0, .ref (b + 77)), (1, .ref (b + (82 + 4 * i))), (2, .int (dz_i (q + (sp_step g c S bg e a q).2))), (3, .int (dz_i (q + 1)))]) x.1 3 d_Translator_putWord_59 rfl hN (by decide) (by omega) rfl ?_
        refine dz_goto (tgt := 37) x.1 d_Translator_putWord_62 (by decide) ?_
        exact ih (q + 1) _ (f - 1) (O2 ++ (sp_step g c S bg e a q).1) J54 (by omega) (by omega) (by omega) FJ54 AJ54 TJ54 RJ54 WJ54 OJ54 (by rw [← hS, hwl, List.append_assoc])
  show ly_V κ b sz I 0 [(0, .ref (b + 77)), (1, .ref (b + (82 + 4 * i)))] []
  refine dz_aload_n x.1 0 d_Translator_putWord_0 rfl rfl ?_
  refine dz_geti (z := (if a = true then 1 else 0)) x.1 (ly_Translator b) fl_Translator_72 d_Translator_putWord_1 WI.2.2 ?_
  refine dz_if_eq (tgt := 27) x.1 d_Translator_putWord_4 (by decide) (dz_br _) (fun hc4 => ?_) (fun hc4 => ?_)
  · have hc4 : ¬ (a = true) := dz_bf hc4
    refine dz_aload_n x.1 0 d_Translator_putWord_27 rfl rfl ?_
    refine dz_geti (z := bg) x.1 (ly_Translator b) fl_Translator_66 d_Translator_putWord_28 WI.1 ?_
    refine dz_istore_n (ls' := [(0, .ref (b + 77)), (1, .ref (b + (82 + 4 * i))), (2, .int (dz_i bg))]) x.1 d_Translator_putWord_31 rfl hN (by decide) rfl ?_
    refine dz_aload_n x.1 0 d_Translator_putWord_32 rfl rfl ?_
    refine dz_geti (z := bg) x.1 (ly_Translator b) fl_Translator_66 d_Translator_putWord_33 WI.1 ?_
    refine dz_istore_n (ls' := [(0, .ref (b + 77)), (1, .ref (b + (82 + 4 * i))), (2, .int (dz_i bg)), (3, .int (dz_i bg))]) x.1 d_Translator_putWord_36 rfl hN (by decide) rfl ?_
    have ew : sp_wp a bg = [] := by unfold sp_wp; rw [if_neg hc4]
    exact loop (e - bg).toNat bg bg 100 (O) I (by omega) (by omega) (by omega) FI AI TI RI WI OI (by rw [ew]; simp)
  · have hc4 : a = true := dz_bt hc4
    refine dz_aload_n x.1 1 d_Translator_putWord_7 rfl rfl ?_
    refine dz_bipush x.1 d_Translator_putWord_8 (by decide) ?_
    refine dz_aload_n x.1 0 d_Translator_putWord_10 rfl rfl ?_
    refine dz_geti (z := bg) x.1 (ly_Translator b) fl_Translator_66 d_Translator_putWord_11 WI.1 ?_
    refine ly_callV (rest := []) x cl_Translator_50 (c_put l D Dt b sz I i hi (O) OI (by unfold sp_wp at hlen; rw [if_pos hc4] at hlen; simp only [List.length_append, List.length_cons, List.length_nil] at hlen; omega) 32 bg) (by decide) (ly_Block b hi) rfl rfl rfl rfl (Nat.le_of_ble_eq_true rfl) d_Translator_putWord_14 (fun v J14 hp14 => ?_)
    obtain ⟨rfl, hFJ14, hAJ14, OJ14⟩ := hp14
    have FJ14 : sp_fr I J14 (fun q => q = b + (82 + 4 * i) ∨ q = b + (83 + 4 * i)) := FI.tr hFJ14 (fun q h => h)
    have AJ14 : ∀ k : Int, k ≠ 2 → J14 (b + (82 + 4 * i)) k = I (b + (82 + 4 * i)) k := fun k hk => (hAJ14 k hk).trans (AI k hk)
    have TJ14 : sp_T b J14 n g := TI.fr (hFJ14 _ (fun h => by rcases h with h | h <;> omega)) (hFJ14 _ (fun h => by rcases h with h | h <;> omega))
    have RJ14 : sp_RC b J14 c S := RI.fr (by rw [hFJ14 _ (fun h => by rcases h with h | h <;> omega)]) (fun q h1 h2 => hFJ14 _ (fun h => by rcases h with h | h <;> omega))
    have WJ14 : sp_TR b J14 bg e a := WI.fr (hFJ14 _ (fun h => by rcases h with h | h <;> omega))
    show ly_V κ b sz J14 17 [(0, .ref (b + 77)), (1, .ref (b + (82 + 4 * i)))] []
    refine dz_aload_n x.1 1 d_Translator_putWord_17 rfl rfl ?_
    refine dz_bipush x.1 d_Translator_putWord_18 (by decide) ?_
    refine dz_aload_n x.1 0 d_Translator_putWord_20 rfl rfl ?_
    refine dz_geti (z := bg) x.1 (ly_Translator b) fl_Translator_66 d_Translator_putWord_21 WJ14.1 ?_
    refine ly_callV (rest := []) x cl_Translator_50 (c_put l D Dt b sz J14 i hi (O ++ [(32, bg)]) OJ14 (by unfold sp_wp at hlen; rw [if_pos hc4] at hlen; simp only [List.length_append, List.length_cons, List.length_nil] at hlen ⊢; omega) 32 bg) (by decide) (ly_Block b hi) rfl rfl rfl rfl (Nat.le_of_ble_eq_true rfl) d_Translator_putWord_24 (fun v J24 hp24 => ?_)
    obtain ⟨rfl, hFJ24, hAJ24, OJ24⟩ := hp24
    have FJ24 : sp_fr I J24 (fun q => q = b + (82 + 4 * i) ∨ q = b + (83 + 4 * i)) := FJ14.tr hFJ24 (fun q h => h)
    have AJ24 : ∀ k : Int, k ≠ 2 → J24 (b + (82 + 4 * i)) k = I (b + (82 + 4 * i)) k := fun k hk => (hAJ24 k hk).trans (AJ14 k hk)
    have TJ24 : sp_T b J24 n g := TJ14.fr (hFJ24 _ (fun h => by rcases h with h | h <;> omega)) (hFJ24 _ (fun h => by rcases h with h | h <;> omega))
    have RJ24 : sp_RC b J24 c S := RJ14.fr (by rw [hFJ24 _ (fun h => by rcases h with h | h <;> omega)]) (fun q h1 h2 => hFJ24 _ (fun h => by rcases h with h | h <;> omega))
    have WJ24 : sp_TR b J24 bg e a := WJ14.fr (hFJ24 _ (fun h => by rcases h with h | h <;> omega))
    show ly_V κ b sz J24 27 [(0, .ref (b + 77)), (1, .ref (b + (82 + 4 * i)))] []
    refine dz_aload_n x.1 0 d_Translator_putWord_27 rfl rfl ?_
    refine dz_geti (z := bg) x.1 (ly_Translator b) fl_Translator_66 d_Translator_putWord_28 WJ24.1 ?_
    refine dz_istore_n (ls' := [(0, .ref (b + 77)), (1, .ref (b + (82 + 4 * i))), (2, .int (dz_i bg))]) x.1 d_Translator_putWord_31 rfl hN (by decide) rfl ?_
    refine dz_aload_n x.1 0 d_Translator_putWord_32 rfl rfl ?_
    refine dz_geti (z := bg) x.1 (ly_Translator b) fl_Translator_66 d_Translator_putWord_33 WJ24.1 ?_
    refine dz_istore_n (ls' := [(0, .ref (b + 77)), (1, .ref (b + (82 + 4 * i))), (2, .int (dz_i bg)), (3, .int (dz_i bg))]) x.1 d_Translator_putWord_36 rfl hN (by decide) rfl ?_
    have ew : sp_wp a bg = [(32, bg), (32, bg)] := by unfold sp_wp; rw [if_pos hc4]
    exact loop (e - bg).toNat bg bg 100 (O ++ [(32, bg)] ++ [(32, bg)]) J24 (by omega) (by omega) (by omega) FJ24 AJ24 TJ24 RJ24 WJ24 OJ24 (by rw [ew]; simp)
set_option maxRecDepth 100000 in
set_option maxHeartbeats 4000000 in
theorem c_Translator_translateInto (l : Launch) (D : va_G) (Dt : Nat → ClassId) (b sz : Nat) (I : dz_Hp) (n : Int) (g : Int → Int) (TI : sp_T b I n g) (c : Nat) (S : Nat → sp_Ru) (RI : sp_RC b I c S) (i : Nat) (hi : i < 12) (OI : sp_O b i I []) (hlen : (sp_tr g c S n.toNat 0).length ≤ 200) : ly_M l D Dt b sz y_Translator_translateInto b_Translator_translateInto 3 none 8 [.ref (b + 77), .ref (b + (82 + 4 * i))] I (fun v I' => v = none ∧ sp_fr I I' (fun q => q = b + 77 ∨ q = b + (82 + 4 * i) ∨ q = b + (83 + 4 * i)) ∧ (∀ k : Int, k ≠ 2 → I' (b + (82 + 4 * i)) k = I (b + (82 + 4 * i)) k) ∧ sp_O b i I' (sp_tr g c S n.toNat 0)) := by
  refine ly_enter R_Translator (by decide) rfl (Nat.le_of_ble_eq_true rfl) (ly_cat _ 0 rfl) (fun κ x => ?_)
  have hN := ly_N x
  have hn9 := TI.nn
  have loop : ∀ (k : Nat) (q : Int) (O2 : List (Int × Int)) (J : dz_Hp), (0 ≤ q ∧ q + (k : Int) = n) → (sp_fr I J (fun q => q = b + 77 ∨ q = b + (82 + 4 * i) ∨ q = b + (83 + 4 * i))) → (∀ k : Int, k ≠ 2 → J (b + (82 + 4 * i)) k = I (b + (82 + 4 * i)) k) → (sp_T b J n g) → (sp_RC b J c S) → (sp_O b i J O2) → (O2 ++ sp_tr g c S k q = sp_tr g c S n.toNat 0) → ly_V κ b sz J 2 [(0, .ref (b + 77)), (1, .ref (b + (82 + 4 * i))), (2, .int (dz_i q))] [] := by
    intro k
    induction k with
    | zero =>
      intro q O2 J hq FJ AJ TJ RJ OJ hS
      refine dz_iload_n x.1 2 d_Translator_translateInto_2 rfl rfl ?_
      refine dz_aload_n x.1 0 d_Translator_translateInto_3 rfl rfl ?_
      refine dz_getr x.1 (ly_Translator b) fl_Translator_9 (lr_Translator_0 b) d_Translator_translateInto_4 ?_
      refine dz_geti (z := n) x.1 (ly_Typed b) fl_Translator_19 d_Translator_translateInto_7 TJ.1 ?_
      refine dz_icmp_ge (tgt := 68) x.1 d_Translator_translateInto_10 (by decide) (by omega) (by omega) (fun hc10 => ?_) (fun hc10 => by exfalso; omega)
      exact ly_vret x d_Translator_translateInto_68 ⟨rfl, FJ, AJ, by rw [← hS]; simpa [sp_tr] using OJ⟩
    | succ k ih =>
      intro q O2 J hq FJ AJ TJ RJ OJ hS
      refine dz_iload_n x.1 2 d_Translator_translateInto_2 rfl rfl ?_
      refine dz_aload_n x.1 0 d_Translator_translateInto_3 rfl rfl ?_
      refine dz_getr x.1 (ly_Translator b) fl_Translator_9 (lr_Translator_0 b) d_Translator_translateInto_4 ?_
      refine dz_geti (z := n) x.1 (ly_Typed b) fl_Translator_19 d_Translator_translateInto_7 TJ.1 ?_
      refine dz_icmp_ge (tgt := 68) x.1 d_Translator_translateInto_10 (by decide) (by omega) (by omega) (fun hc10 => by exfalso; omega) (fun hc10 => ?_)
      refine dz_aload_n x.1 0 d_Translator_translateInto_13 rfl rfl ?_
      refine dz_getr x.1 (ly_Translator b) fl_Translator_9 (lr_Translator_0 b) d_Translator_translateInto_14 ?_
      refine dz_iload_n x.1 2 d_Translator_translateInto_17 rfl rfl ?_
      refine ly_callV (rest := []) x cl_Translator_25 (c_chAt l D Dt b sz J n g TJ q (by omega)) (by decide) (ly_Typed b) rfl rfl rfl rfl (Nat.le_of_ble_eq_true rfl) d_Translator_translateInto_18 (fun v I' hp18 => ?_)
      obtain ⟨rfl, hp18I⟩ := hp18
      have hp18I := hp18I.symm
      subst hp18I
      have hhp18 := TJ.rng q
      show ly_V κ b sz J 21 [(0, .ref (b + 77)), (1, .ref (b + (82 + 4 * i))), (2, .int (dz_i q))] [.int (dz_i (g q))]
      refine ly_callS (rest := []) x cl_Translator_29 (c_Code_isLetter l D Dt b sz J (g q) (by omega)) (by decide) rfl rfl (Nat.le_of_ble_eq_true rfl) d_Translator_translateInto_21 (fun v I' hp21 => ?_)
      obtain ⟨rfl, hp21I⟩ := hp21
      have hp21I := hp21I.symm
      subst hp21I
      show ly_V κ b sz J 24 [(0, .ref (b + 77)), (1, .ref (b + (82 + 4 * i))), (2, .int (dz_i q))] [.int (dz_i (if (97 ≤ (g q) ∧ (g q) ≤ 122) ∨ (65 ≤ (g q) ∧ (g q) ≤ 90) then 1 else 0))]
      refine dz_if_ne (tgt := 36) x.1 d_Translator_translateInto_24 (by decide) (dz_br _) (fun hc24 => ?_) (fun hc24 => ?_)
      · have hc24 : (97 ≤ (g q) ∧ (g q) ≤ 122) ∨ (65 ≤ (g q) ∧ (g q) ≤ 90) := dz_bt hc24
        refine dz_aload_n x.1 0 d_Translator_translateInto_36 rfl rfl ?_
        refine dz_getr x.1 (ly_Translator b) fl_Translator_9 (lr_Translator_0 b) d_Translator_translateInto_37 ?_
        refine dz_iload_n x.1 2 d_Translator_translateInto_40 rfl rfl ?_
        refine dz_iconst x.1 d_Translator_translateInto_41 ?_
        refine dz_isub (z := q - 1) x.1 d_Translator_translateInto_42 (by omega) ?_
        refine ly_callV (rest := []) x cl_Translator_25 (c_chAt l D Dt b sz J n g TJ (q - 1) (by omega)) (by decide) (ly_Typed b) rfl rfl rfl rfl (Nat.le_of_ble_eq_true rfl) d_Translator_translateInto_43 (fun v I' hp43 => ?_)
        obtain ⟨rfl, hp43I⟩ := hp43
        have hp43I := hp43I.symm
        subst hp43I
        have hhp43 := TJ.rng (q - 1)
        show ly_V κ b sz J 46 [(0, .ref (b + 77)), (1, .ref (b + (82 + 4 * i))), (2, .int (dz_i q))] [.int (dz_i (g (q - 1)))]
        refine ly_callS (rest := []) x cl_Translator_29 (c_Code_isLetter l D Dt b sz J (g (q - 1)) (by omega)) (by decide) rfl rfl (Nat.le_of_ble_eq_true rfl) d_Translator_translateInto_46 (fun v I' hp46 => ?_)
        obtain ⟨rfl, hp46I⟩ := hp46
        have hp46I := hp46I.symm
        subst hp46I
        show ly_V κ b sz J 49 [(0, .ref (b + 77)), (1, .ref (b + (82 + 4 * i))), (2, .int (dz_i q))] [.int (dz_i (if (97 ≤ (g (q - 1)) ∧ (g (q - 1)) ≤ 122) ∨ (65 ≤ (g (q - 1)) ∧ (g (q - 1)) ≤ 90) then 1 else 0))]
        refine dz_if_ne (tgt := 62) x.1 d_Translator_translateInto_49 (by decide) (dz_br _) (fun hc49 => ?_) (fun hc49 => ?_)
        · have hc49 : (97 ≤ (g (q - 1)) ∧ (g (q - 1)) ≤ 122) ∨ (65 ≤ (g (q - 1)) ∧ (g (q - 1)) ≤ 90) := dz_bt hc49
          refine dz_iinc (z := q + 1) (ls' := [(0, .ref (b + 77)), (1, .ref (b + (82 + 4 * i))), (2, .int (dz_i (q + 1)))]) x.1 2 d_Translator_translateInto_62 rfl hN (by decide) (by omega) rfl ?_
          refine dz_goto (tgt := 2) x.1 d_Translator_translateInto_65 (by decide) ?_
          have htr : sp_tr g c S (k + 1) q = ([]) ++ sp_tr g c S k (q + 1) := by simp only [sp_tr]; unfold sp_isL; rw [if_pos (decide_eq_true hc24), if_pos (decide_eq_true hc49)]
          have hT2 := hlen
          exact ih (q + 1) O2 J (by omega) FJ AJ TJ RJ OJ (by rw [← hS, htr]; rfl)
        · have hc49 : ¬ ((97 ≤ (g (q - 1)) ∧ (g (q - 1)) ≤ 122) ∨ (65 ≤ (g (q - 1)) ∧ (g (q - 1)) ≤ 90)) := dz_bf hc49
          have htr : sp_tr g c S (k + 1) q = (sp_wd g c S q) ++ sp_tr g c S k (q + 1) := by simp only [sp_tr]; unfold sp_isL; rw [if_pos (decide_eq_true hc24), if_neg (by rw [decide_eq_false hc49]; decide)]
          have hT2 := hlen
          have hwe9 := sp_we_rng TJ (q := q) (by omega)
          refine dz_aload_n x.1 0 d_Translator_translateInto_52 rfl rfl ?_
          refine dz_iload_n x.1 2 d_Translator_translateInto_53 rfl rfl ?_
          refine ly_callV (rest := []) x cl_Translator_39 (c_Translator_findWord l D Dt b sz J n g TJ q (by omega)) (by decide) (ly_Translator b) rfl rfl rfl rfl (Nat.le_of_ble_eq_true rfl) d_Translator_translateInto_54 (fun v J54 hp54 => ?_)
          obtain ⟨rfl, hI54⟩ := hp54
          have WJ54 : sp_TR b J54 q (sp_we g q) (sp_wc g q (sp_we g q)) := by rw [hI54]; exact ⟨by rw [dz_up_k _ _ _ (by decide), dz_up_k _ _ _ (by decide), dz_up_s], by rw [dz_up_k _ _ _ (by decide), dz_up_s], dz_up_s _ _ _ _⟩
          have hF54 : sp_fr J J54 (fun q => q = b + 77) := by rw [hI54]; exact (((sp_fr.rf (P := fun q => q = b + 77)).up rfl).up rfl).up rfl
          have FJ54 : sp_fr I J54 (fun q => q = b + 77 ∨ q = b + (82 + 4 * i) ∨ q = b + (83 + 4 * i)) := FJ.tr hF54 (fun q h => Or.inl h)
          have AJ54 : ∀ k : Int, k ≠ 2 → J54 (b + (82 + 4 * i)) k = I (b + (82 + 4 * i)) k := fun k hk => by rw [hF54 _ (fun h => by have h : _ = _ := h; omega)]; exact AJ k hk
          have TJ54 : sp_T b J54 n g := TJ.fr (hF54 _ (fun h => by have h : _ = _ := h; omega)) (hF54 _ (fun h => by have h : _ = _ := h; omega))
          have RJ54 : sp_RC b J54 c S := RJ.fr (by rw [hF54 _ (fun h => by have h : _ = _ := h; omega)]) (fun q h1 h2 => hF54 _ (fun h => by have h : _ = _ := h; omega))
          have OJ54 : sp_O b i J54 O2 := OJ.fr (by rw [hF54 _ (fun h => by have h : _ = _ := h; omega)]) (hF54 _ (fun h => by have h : _ = _ := h; omega))
          show ly_V κ b sz J54 57 [(0, .ref (b + 77)), (1, .ref (b + (82 + 4 * i))), (2, .int (dz_i q))] []
          refine dz_aload_n x.1 0 d_Translator_translateInto_57 rfl rfl ?_
          refine dz_aload_n x.1 1 d_Translator_translateInto_58 rfl rfl ?_
          refine ly_callV (rest := []) x cl_Translator_43 (c_Translator_putWord l D Dt b sz J54 n g TJ54 c S RJ54 q (sp_we g q) (sp_wc g q (sp_we g q)) WJ54 (by omega) i hi O2 OJ54 (by rw [htr] at hS; rw [← hS] at hT2; simp only [List.length_append] at hT2 ⊢; unfold sp_wd at hT2; simp only [List.length_append] at hT2; omega)) (by decide) (ly_Translator b) rfl rfl rfl rfl (Nat.le_of_ble_eq_true rfl) d_Translator_translateInto_59 (fun v J59 hp59 => ?_)
          obtain ⟨rfl, hF59, hA59, OJ59⟩ := hp59
          have FJ59 : sp_fr I J59 (fun q => q = b + 77 ∨ q = b + (82 + 4 * i) ∨ q = b + (83 + 4 * i)) := FJ54.tr hF59 (fun q h => Or.inr h)
          have AJ59 : ∀ k : Int, k ≠ 2 → J59 (b + (82 + 4 * i)) k = I (b + (82 + 4 * i)) k := fun k hk => (hA59 k hk).trans (AJ54 k hk)
          have TJ59 : sp_T b J59 n g := TJ54.fr (hF59 _ (fun h => by rcases h with h | h <;> omega)) (hF59 _ (fun h => by rcases h with h | h <;> omega))
          have RJ59 : sp_RC b J59 c S := RJ54.fr (by rw [hF59 _ (fun h => by rcases h with h | h <;> omega)]) (fun q h1 h2 => hF59 _ (fun h => by rcases h with h | h <;> omega))
          show ly_V κ b sz J59 62 [(0, .ref (b + 77)), (1, .ref (b + (82 + 4 * i))), (2, .int (dz_i q))] []
          have OK59 : sp_O b i J59 (O2 ++ sp_wd g c S q) := OJ59
          refine dz_iinc (z := q + 1) (ls' := [(0, .ref (b + 77)), (1, .ref (b + (82 + 4 * i))), (2, .int (dz_i (q + 1)))]) x.1 2 d_Translator_translateInto_62 rfl hN (by decide) (by omega) rfl ?_
          refine dz_goto (tgt := 2) x.1 d_Translator_translateInto_65 (by decide) ?_
          exact ih (q + 1) (O2 ++ (sp_wd g c S q)) J59 (by omega) FJ59 AJ59 TJ59 RJ59 OK59 (by rw [← hS, htr, List.append_assoc])
      · have hc24 : ¬ ((97 ≤ (g q) ∧ (g q) ≤ 122) ∨ (65 ≤ (g q) ∧ (g q) ≤ 90)) := dz_bf hc24
        have htr : sp_tr g c S (k + 1) q = (sp_s1 g q ++ (sp_cell (g q), q) :: sp_s3 g q) ++ sp_tr g c S k (q + 1) := by simp only [sp_tr]; unfold sp_isL; rw [if_neg (by rw [decide_eq_false hc24]; decide)]
        have hT2 := hlen
        refine dz_aload_n x.1 0 d_Translator_translateInto_27 rfl rfl ?_
        refine dz_aload_n x.1 1 d_Translator_translateInto_28 rfl rfl ?_
        refine dz_iload_n x.1 2 d_Translator_translateInto_29 rfl rfl ?_
        refine ly_callV (rest := []) x cl_Translator_35 (c_Translator_putSingle l D Dt b sz J n g TJ i hi O2 OJ q (by omega) (by rw [htr] at hS; rw [← hS] at hT2; simp only [List.length_append, List.length_cons] at hT2; omega)) (by decide) (ly_Translator b) rfl rfl rfl rfl (Nat.le_of_ble_eq_true rfl) d_Translator_translateInto_30 (fun v J30 hp30 => ?_)
        obtain ⟨rfl, hF30, hA30, OJ30⟩ := hp30
        have FJ30 : sp_fr I J30 (fun q => q = b + 77 ∨ q = b + (82 + 4 * i) ∨ q = b + (83 + 4 * i)) := FJ.tr hF30 (fun q h => Or.inr h)
        have AJ30 : ∀ k : Int, k ≠ 2 → J30 (b + (82 + 4 * i)) k = I (b + (82 + 4 * i)) k := fun k hk => (hA30 k hk).trans (AJ k hk)
        have TJ30 : sp_T b J30 n g := TJ.fr (hF30 _ (fun h => by rcases h with h | h <;> omega)) (hF30 _ (fun h => by rcases h with h | h <;> omega))
        have RJ30 : sp_RC b J30 c S := RJ.fr (by rw [hF30 _ (fun h => by rcases h with h | h <;> omega)]) (fun q h1 h2 => hF30 _ (fun h => by rcases h with h | h <;> omega))
        show ly_V κ b sz J30 33 [(0, .ref (b + 77)), (1, .ref (b + (82 + 4 * i))), (2, .int (dz_i q))] []
        refine dz_goto (tgt := 62) x.1 d_Translator_translateInto_33 (by decide) ?_
        refine dz_iinc (z := q + 1) (ls' := [(0, .ref (b + 77)), (1, .ref (b + (82 + 4 * i))), (2, .int (dz_i (q + 1)))]) x.1 2 d_Translator_translateInto_62 rfl hN (by decide) (by omega) rfl ?_
        refine dz_goto (tgt := 2) x.1 d_Translator_translateInto_65 (by decide) ?_
        exact ih (q + 1) (O2 ++ (sp_s1 g q ++ (sp_cell (g q), q) :: sp_s3 g q)) J30 (by omega) FJ30 AJ30 TJ30 RJ30 OJ30 (by rw [← hS, htr, List.append_assoc])
  show ly_V κ b sz I 0 [(0, .ref (b + 77)), (1, .ref (b + (82 + 4 * i)))] []
  refine dz_iconst x.1 d_Translator_translateInto_0 ?_
  refine dz_istore_n (ls' := [(0, .ref (b + 77)), (1, .ref (b + (82 + 4 * i))), (2, .int (dz_i 0))]) x.1 d_Translator_translateInto_1 rfl hN (by decide) rfl ?_
  exact loop n.toNat 0 [] I (by omega) sp_fr.rf (fun k hk => rfl) TI RI OI (by simp)
