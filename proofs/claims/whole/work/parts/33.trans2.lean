theorem sp_step_len {g : Int → Int} {c : Nat} {S : Nat → sp_Ru} {bg e : Int} {a : Bool} {p : Int} (hw : ∀ r, r < c → sp_rwf (S r)) : (sp_sgn g a p).length + 1 ≤ (sp_step g c S bg e a p).1.length ∧ 1 ≤ (sp_step g c S bg e a p).2 ∧ (sp_step g c S bg e a p).2 ≤ 6 := by
  unfold sp_step
  split
  · simp
  · rename_i r h
    have h1 := hw r (sp_best_lt _ _ h).1
    have h2 := h1.2.2.1
    have h3 := h1.2.1
    simp only [List.length_append, sp_cl_len]
    omega
theorem sp_wl_nil {F : Int → List (Int × Int) × Int} {e p : Int} (h : e ≤ p) (k : Nat) : sp_wl F e k p = [] := by
  cases k with
  | zero => rfl
  | succ k => simp only [sp_wl]; rw [if_neg (by omega)]
theorem sp_wl_step {F : Int → List (Int × Int) × Int} {e p : Int} (h : p < e) {k : Nat} (hk : 0 < k) : sp_wl F e k p = (F p).1 ++ sp_wl F e (k - 1) (p + (F p).2) := by
  cases k with
  | zero => omega
  | succ k => simp only [sp_wl]; rw [if_pos h]; rfl
theorem sp_RC.wf {b : Nat} {J : dz_Hp} {c : Nat} {S : Nat → sp_Ru} (h : sp_RC b J c S) : ∀ r, r < c → sp_rwf (S r) := fun r hr => (h.2.2 r hr).2
theorem sp_we_rng {b : Nat} {I : dz_Hp} {n : Int} {g : Int → Int} (h : sp_T b I n g) {q : Int} (hq : 0 ≤ q ∧ q ≤ n) : q ≤ sp_we g q ∧ sp_we g q ≤ n := by
  obtain ⟨h1, h2, h3, h4⟩ := sp_run_spec (sp_isL g) 100 q
  refine ⟨h1, ?_⟩
  by_cases c : sp_we g q ≤ n
  · exact c
  · have := h3 n (by omega) (by unfold sp_we at c; omega)
    unfold sp_isL at this
    have h5 := of_decide_eq_true this
    have h6 := h.out (i := n) (by omega)
    omega
set_option maxRecDepth 100000 in
set_option maxHeartbeats 4000000 in
theorem c_Translator_putSingle (l : Launch) (D : va_G) (Dt : Nat → ClassId) (b sz : Nat) (I : dz_Hp) (n : Int) (g : Int → Int) (TI : sp_T b I n g) (i : Nat) (hi : i < 12) (O : List (Int × Int)) (OI : sp_O b i I O) (p : Int) (hp : 0 ≤ p ∧ p < 200) (hlen : O.length + ((sp_s1 g p).length + (1 + (sp_s3 g p).length)) ≤ 200) : ly_M l D Dt b sz y_Translator_putSingle b_Translator_putSingle 5 none 6 [.ref (b + 77), .ref (b + (82 + 4 * i)), .int (dz_i p)] I (fun v I' => v = none ∧ sp_fr I I' (fun q => q = b + (82 + 4 * i) ∨ q = b + (83 + 4 * i)) ∧ (∀ k : Int, k ≠ 2 → I' (b + (82 + 4 * i)) k = I (b + (82 + 4 * i)) k) ∧ sp_O b i I' (O ++ (sp_s1 g p ++ (sp_cell (g p), p) :: sp_s3 g p))) := by
  refine ly_enter R_Translator (by decide) rfl (Nat.le_of_ble_eq_true rfl) (ly_cat _ 0 rfl) (fun κ x => ?_)
  have hN := ly_N x
  have FI : sp_fr I I (fun q => q = b + (82 + 4 * i) ∨ q = b + (83 + 4 * i)) := sp_fr.rf
  have AI : ∀ k : Int, k ≠ 2 → I (b + (82 + 4 * i)) k = I (b + (82 + 4 * i)) k := fun k hk => rfl
  show ly_V κ b sz I 0 [(0, .ref (b + 77)), (1, .ref (b + (82 + 4 * i))), (2, .int (dz_i p))] []
  refine dz_aload_n x.1 0 d_Translator_putSingle_0 rfl rfl ?_
  refine dz_getr x.1 (ly_Translator b) fl_Translator_9 (lr_Translator_0 b) d_Translator_putSingle_1 ?_
  refine dz_iload_n x.1 2 d_Translator_putSingle_4 rfl rfl ?_
  refine ly_callV (rest := []) x cl_Translator_25 (c_chAt l D Dt b sz I n g TI p (by omega)) (by decide) (ly_Typed b) rfl rfl rfl rfl (Nat.le_of_ble_eq_true rfl) d_Translator_putSingle_5 (fun v I' hp5 => ?_)
  obtain ⟨rfl, hp5I⟩ := hp5
  have hp5I := hp5I.symm
  subst hp5I
  have hhp5 := TI.rng p
  show ly_V κ b sz I 8 [(0, .ref (b + 77)), (1, .ref (b + (82 + 4 * i))), (2, .int (dz_i p))] [.int (dz_i (g p))]
  refine dz_istore_n (ls' := [(0, .ref (b + 77)), (1, .ref (b + (82 + 4 * i))), (2, .int (dz_i p)), (3, .int (dz_i (g p)))]) x.1 d_Translator_putSingle_8 rfl hN (by decide) rfl ?_
  refine dz_iload_n x.1 3 d_Translator_putSingle_9 rfl rfl ?_
  refine ly_callS (rest := []) x cl_Translator_47 (c_Code_isDigit l D Dt b sz I (g p) (by omega)) (by decide) rfl rfl (Nat.le_of_ble_eq_true rfl) d_Translator_putSingle_10 (fun v I' hp10 => ?_)
  obtain ⟨rfl, hp10I⟩ := hp10
  have hp10I := hp10I.symm
  subst hp10I
  show ly_V κ b sz I 13 [(0, .ref (b + 77)), (1, .ref (b + (82 + 4 * i))), (2, .int (dz_i p)), (3, .int (dz_i (g p)))] [.int (dz_i (if 48 ≤ (g p) ∧ (g p) ≤ 57 then 1 else 0))]
  refine dz_istore (ls' := [(0, .ref (b + 77)), (1, .ref (b + (82 + 4 * i))), (2, .int (dz_i p)), (3, .int (dz_i (g p))), (4, .int (dz_i (if 48 ≤ (g p) ∧ (g p) ≤ 57 then 1 else 0)))]) x.1 d_Translator_putSingle_13 hN (by decide) rfl ?_
  refine dz_iload x.1 4 d_Translator_putSingle_15 rfl ?_
  refine dz_if_eq (tgt := 43) x.1 d_Translator_putSingle_17 (by decide) (dz_br _) (fun hc17 => ?_) (fun hc17 => ?_)
  · have hc17 : ¬ (48 ≤ (g p) ∧ (g p) ≤ 57) := dz_bf hc17
    have e1 : sp_s1 g p = [] := by
      unfold sp_s1
      rw [if_neg (by intro h; first | exact hc17 h.1 | exact h.2 hc33)]
    have l1 : (sp_s1 g p).length = 0 := by rw [e1]; rfl
    refine dz_aload_n x.1 1 d_Translator_putSingle_43 rfl rfl ?_
    refine dz_iload_n x.1 3 d_Translator_putSingle_44 rfl rfl ?_
    refine ly_callS (rest := [.ref (b + (82 + 4 * i))]) x cl_Translator_56 (c_Code_cellOf l D Dt b sz I (g p) (by omega)) (by decide) rfl rfl (Nat.le_of_ble_eq_true rfl) d_Translator_putSingle_45 (fun v I' hp45 => ?_)
    obtain ⟨rfl, hp45I⟩ := hp45
    have hp45I := hp45I.symm
    subst hp45I
    show ly_V κ b sz I 48 [(0, .ref (b + 77)), (1, .ref (b + (82 + 4 * i))), (2, .int (dz_i p)), (3, .int (dz_i (g p))), (4, .int (dz_i (if 48 ≤ (g p) ∧ (g p) ≤ 57 then 1 else 0)))] [.int (dz_i (sp_cell (g p))), .ref (b + (82 + 4 * i))]
    refine dz_iload_n x.1 2 d_Translator_putSingle_48 rfl rfl ?_
    refine ly_callV (rest := []) x cl_Translator_50 (c_put l D Dt b sz I i hi (O) OI (by (try simp only [List.length_append, List.length_cons, List.length_nil]); omega) (sp_cell (g p)) p) (by decide) (ly_Block b hi) rfl rfl rfl rfl (Nat.le_of_ble_eq_true rfl) d_Translator_putSingle_49 (fun v J49 hp49 => ?_)
    obtain ⟨rfl, hFJ49, hAJ49, OJ49⟩ := hp49
    have FJ49 : sp_fr I J49 (fun q => q = b + (82 + 4 * i) ∨ q = b + (83 + 4 * i)) := FI.tr hFJ49 (fun q h => h)
    have AJ49 : ∀ k : Int, k ≠ 2 → J49 (b + (82 + 4 * i)) k = I (b + (82 + 4 * i)) k := fun k hk => (hAJ49 k hk).trans (AI k hk)
    have TJ49 : sp_T b J49 n g := TI.fr (hFJ49 _ (fun h => by rcases h with h | h <;> omega)) (hFJ49 _ (fun h => by rcases h with h | h <;> omega))
    show ly_V κ b sz J49 52 [(0, .ref (b + 77)), (1, .ref (b + (82 + 4 * i))), (2, .int (dz_i p)), (3, .int (dz_i (g p))), (4, .int (dz_i (if 48 ≤ (g p) ∧ (g p) ≤ 57 then 1 else 0)))] []
    refine dz_iload x.1 4 d_Translator_putSingle_52 rfl ?_
    refine dz_if_eq (tgt := 82) x.1 d_Translator_putSingle_54 (by decide) (dz_br _) (fun hc54 => ?_) (fun hc54 => ?_)
    · have hc54 : ¬ (48 ≤ (g p) ∧ (g p) ≤ 57) := dz_bf hc54
      have e3 : sp_s3 g p = [] := by
        unfold sp_s3
        rw [if_neg (by intro h; first | exact hc54 h.1 | exact hc70 h.2)]
      have OO : sp_O b i J49 (O ++ (sp_s1 g p ++ (sp_cell (g p), p) :: sp_s3 g p)) := by rw [e1, e3]; simpa using OJ49
      exact ly_vret x d_Translator_putSingle_82 ⟨rfl, FJ49, AJ49, OO⟩
    · have hc54 : 48 ≤ (g p) ∧ (g p) ≤ 57 := dz_bt hc54
      refine dz_aload_n x.1 0 d_Translator_putSingle_57 rfl rfl ?_
      refine dz_getr x.1 (ly_Translator b) fl_Translator_9 (lr_Translator_0 b) d_Translator_putSingle_58 ?_
      refine dz_iload_n x.1 2 d_Translator_putSingle_61 rfl rfl ?_
      refine dz_iconst x.1 d_Translator_putSingle_62 ?_
      refine dz_iadd (z := p + 1) x.1 d_Translator_putSingle_63 (by omega) ?_
      refine ly_callV (rest := []) x cl_Translator_25 (c_chAt l D Dt b sz J49 n g TJ49 (p + 1) (by omega)) (by decide) (ly_Typed b) rfl rfl rfl rfl (Nat.le_of_ble_eq_true rfl) d_Translator_putSingle_64 (fun v I' hp64 => ?_)
      obtain ⟨rfl, hp64I⟩ := hp64
      have hp64I := hp64I.symm
      subst hp64I
      have hhp64 := TJ49.rng (p + 1)
      show ly_V κ b sz J49 67 [(0, .ref (b + 77)), (1, .ref (b + (82 + 4 * i))), (2, .int (dz_i p)), (3, .int (dz_i (g p))), (4, .int (dz_i (if 48 ≤ (g p) ∧ (g p) ≤ 57 then 1 else 0)))] [.int (dz_i (g (p + 1)))]
      refine ly_callS (rest := []) x cl_Translator_60 (c_Code_looksLikeDigit l D Dt b sz J49 (g (p + 1)) (by omega)) (by decide) rfl rfl (Nat.le_of_ble_eq_true rfl) d_Translator_putSingle_67 (fun v I' hp67 => ?_)
      obtain ⟨rfl, hp67I⟩ := hp67
      have hp67I := hp67I.symm
      subst hp67I
      show ly_V κ b sz J49 70 [(0, .ref (b + 77)), (1, .ref (b + (82 + 4 * i))), (2, .int (dz_i p)), (3, .int (dz_i (g p))), (4, .int (dz_i (if 48 ≤ (g p) ∧ (g p) ≤ 57 then 1 else 0)))] [.int (dz_i (if 97 ≤ (g (p + 1)) ∧ (g (p + 1)) ≤ 106 then 1 else 0))]
      refine dz_if_eq (tgt := 82) x.1 d_Translator_putSingle_70 (by decide) (dz_br _) (fun hc70 => ?_) (fun hc70 => ?_)
      · have hc70 : ¬ (97 ≤ (g (p + 1)) ∧ (g (p + 1)) ≤ 106) := dz_bf hc70
        have e3 : sp_s3 g p = [] := by
          unfold sp_s3
          rw [if_neg (by intro h; first | exact hc54 h.1 | exact hc70 h.2)]
        have OO : sp_O b i J49 (O ++ (sp_s1 g p ++ (sp_cell (g p), p) :: sp_s3 g p)) := by rw [e1, e3]; simpa using OJ49
        exact ly_vret x d_Translator_putSingle_82 ⟨rfl, FJ49, AJ49, OO⟩
      · have hc70 : 97 ≤ (g (p + 1)) ∧ (g (p + 1)) ≤ 106 := dz_bt hc70
        refine dz_aload_n x.1 1 d_Translator_putSingle_73 rfl rfl ?_
        refine dz_bipush x.1 d_Translator_putSingle_74 (by decide) ?_
        refine dz_iload_n x.1 2 d_Translator_putSingle_76 rfl rfl ?_
        refine dz_iconst x.1 d_Translator_putSingle_77 ?_
        refine dz_iadd (z := p + 1) x.1 d_Translator_putSingle_78 (by omega) ?_
        refine ly_callV (rest := []) x cl_Translator_50 (c_put l D Dt b sz J49 i hi (O ++ [((sp_cell (g p)), p)]) OJ49 (by simp only [List.length_append, List.length_cons, List.length_nil]; have l3 : (sp_s3 g p).length = 1 := (by unfold sp_s3; rw [if_pos ⟨hc54, hc70⟩]; rfl); omega) 48 (p + 1)) (by decide) (ly_Block b hi) rfl rfl rfl rfl (Nat.le_of_ble_eq_true rfl) d_Translator_putSingle_79 (fun v J79 hp79 => ?_)
        obtain ⟨rfl, hFJ79, hAJ79, OJ79⟩ := hp79
        have FJ79 : sp_fr I J79 (fun q => q = b + (82 + 4 * i) ∨ q = b + (83 + 4 * i)) := FJ49.tr hFJ79 (fun q h => h)
        have AJ79 : ∀ k : Int, k ≠ 2 → J79 (b + (82 + 4 * i)) k = I (b + (82 + 4 * i)) k := fun k hk => (hAJ79 k hk).trans (AJ49 k hk)
        have TJ79 : sp_T b J79 n g := TJ49.fr (hFJ79 _ (fun h => by rcases h with h | h <;> omega)) (hFJ79 _ (fun h => by rcases h with h | h <;> omega))
        show ly_V κ b sz J79 82 [(0, .ref (b + 77)), (1, .ref (b + (82 + 4 * i))), (2, .int (dz_i p)), (3, .int (dz_i (g p))), (4, .int (dz_i (if 48 ≤ (g p) ∧ (g p) ≤ 57 then 1 else 0)))] []
        have e3 : sp_s3 g p = [(48, p + 1)] := by
          unfold sp_s3
          rw [if_pos ⟨hc54, hc70⟩]
        have OO : sp_O b i J79 (O ++ (sp_s1 g p ++ (sp_cell (g p), p) :: sp_s3 g p)) := by rw [e1, e3]; simpa using OJ79
        exact ly_vret x d_Translator_putSingle_82 ⟨rfl, FJ79, AJ79, OO⟩
  · have hc17 : 48 ≤ (g p) ∧ (g p) ≤ 57 := dz_bt hc17
    refine dz_aload_n x.1 0 d_Translator_putSingle_20 rfl rfl ?_
    refine dz_getr x.1 (ly_Translator b) fl_Translator_9 (lr_Translator_0 b) d_Translator_putSingle_21 ?_
    refine dz_iload_n x.1 2 d_Translator_putSingle_24 rfl rfl ?_
    refine dz_iconst x.1 d_Translator_putSingle_25 ?_
    refine dz_isub (z := p - 1) x.1 d_Translator_putSingle_26 (by omega) ?_
    refine ly_callV (rest := []) x cl_Translator_25 (c_chAt l D Dt b sz I n g TI (p - 1) (by omega)) (by decide) (ly_Typed b) rfl rfl rfl rfl (Nat.le_of_ble_eq_true rfl) d_Translator_putSingle_27 (fun v I' hp27 => ?_)
    obtain ⟨rfl, hp27I⟩ := hp27
    have hp27I := hp27I.symm
    subst hp27I
    have hhp27 := TI.rng (p - 1)
    show ly_V κ b sz I 30 [(0, .ref (b + 77)), (1, .ref (b + (82 + 4 * i))), (2, .int (dz_i p)), (3, .int (dz_i (g p))), (4, .int (dz_i (if 48 ≤ (g p) ∧ (g p) ≤ 57 then 1 else 0)))] [.int (dz_i (g (p - 1)))]
    refine ly_callS (rest := []) x cl_Translator_47 (c_Code_isDigit l D Dt b sz I (g (p - 1)) (by omega)) (by decide) rfl rfl (Nat.le_of_ble_eq_true rfl) d_Translator_putSingle_30 (fun v I' hp30 => ?_)
    obtain ⟨rfl, hp30I⟩ := hp30
    have hp30I := hp30I.symm
    subst hp30I
    show ly_V κ b sz I 33 [(0, .ref (b + 77)), (1, .ref (b + (82 + 4 * i))), (2, .int (dz_i p)), (3, .int (dz_i (g p))), (4, .int (dz_i (if 48 ≤ (g p) ∧ (g p) ≤ 57 then 1 else 0)))] [.int (dz_i (if 48 ≤ (g (p - 1)) ∧ (g (p - 1)) ≤ 57 then 1 else 0))]
    refine dz_if_ne (tgt := 43) x.1 d_Translator_putSingle_33 (by decide) (dz_br _) (fun hc33 => ?_) (fun hc33 => ?_)
    · have hc33 : 48 ≤ (g (p - 1)) ∧ (g (p - 1)) ≤ 57 := dz_bt hc33
      have e1 : sp_s1 g p = [] := by
        unfold sp_s1
        rw [if_neg (by intro h; first | exact hc17 h.1 | exact h.2 hc33)]
      have l1 : (sp_s1 g p).length = 0 := by rw [e1]; rfl
      refine dz_aload_n x.1 1 d_Translator_putSingle_43 rfl rfl ?_
      refine dz_iload_n x.1 3 d_Translator_putSingle_44 rfl rfl ?_
      refine ly_callS (rest := [.ref (b + (82 + 4 * i))]) x cl_Translator_56 (c_Code_cellOf l D Dt b sz I (g p) (by omega)) (by decide) rfl rfl (Nat.le_of_ble_eq_true rfl) d_Translator_putSingle_45 (fun v I' hp45 => ?_)
      obtain ⟨rfl, hp45I⟩ := hp45
      have hp45I := hp45I.symm
      subst hp45I
      show ly_V κ b sz I 48 [(0, .ref (b + 77)), (1, .ref (b + (82 + 4 * i))), (2, .int (dz_i p)), (3, .int (dz_i (g p))), (4, .int (dz_i (if 48 ≤ (g p) ∧ (g p) ≤ 57 then 1 else 0)))] [.int (dz_i (sp_cell (g p))), .ref (b + (82 + 4 * i))]
      refine dz_iload_n x.1 2 d_Translator_putSingle_48 rfl rfl ?_
      refine ly_callV (rest := []) x cl_Translator_50 (c_put l D Dt b sz I i hi (O) OI (by (try simp only [List.length_append, List.length_cons, List.length_nil]); omega) (sp_cell (g p)) p) (by decide) (ly_Block b hi) rfl rfl rfl rfl (Nat.le_of_ble_eq_true rfl) d_Translator_putSingle_49 (fun v J49 hp49 => ?_)
      obtain ⟨rfl, hFJ49, hAJ49, OJ49⟩ := hp49
      have FJ49 : sp_fr I J49 (fun q => q = b + (82 + 4 * i) ∨ q = b + (83 + 4 * i)) := FI.tr hFJ49 (fun q h => h)
      have AJ49 : ∀ k : Int, k ≠ 2 → J49 (b + (82 + 4 * i)) k = I (b + (82 + 4 * i)) k := fun k hk => (hAJ49 k hk).trans (AI k hk)
      have TJ49 : sp_T b J49 n g := TI.fr (hFJ49 _ (fun h => by rcases h with h | h <;> omega)) (hFJ49 _ (fun h => by rcases h with h | h <;> omega))
      show ly_V κ b sz J49 52 [(0, .ref (b + 77)), (1, .ref (b + (82 + 4 * i))), (2, .int (dz_i p)), (3, .int (dz_i (g p))), (4, .int (dz_i (if 48 ≤ (g p) ∧ (g p) ≤ 57 then 1 else 0)))] []
      refine dz_iload x.1 4 d_Translator_putSingle_52 rfl ?_
      refine dz_if_eq (tgt := 82) x.1 d_Translator_putSingle_54 (by decide) (dz_br _) (fun hc54 => ?_) (fun hc54 => ?_)
      · have hc54 : ¬ (48 ≤ (g p) ∧ (g p) ≤ 57) := dz_bf hc54
        have e3 : sp_s3 g p = [] := by
          unfold sp_s3
          rw [if_neg (by intro h; first | exact hc54 h.1 | exact hc70 h.2)]
        have OO : sp_O b i J49 (O ++ (sp_s1 g p ++ (sp_cell (g p), p) :: sp_s3 g p)) := by rw [e1, e3]; simpa using OJ49
        exact ly_vret x d_Translator_putSingle_82 ⟨rfl, FJ49, AJ49, OO⟩
      · have hc54 : 48 ≤ (g p) ∧ (g p) ≤ 57 := dz_bt hc54
        refine dz_aload_n x.1 0 d_Translator_putSingle_57 rfl rfl ?_
        refine dz_getr x.1 (ly_Translator b) fl_Translator_9 (lr_Translator_0 b) d_Translator_putSingle_58 ?_
        refine dz_iload_n x.1 2 d_Translator_putSingle_61 rfl rfl ?_
        refine dz_iconst x.1 d_Translator_putSingle_62 ?_
        refine dz_iadd (z := p + 1) x.1 d_Translator_putSingle_63 (by omega) ?_
        refine ly_callV (rest := []) x cl_Translator_25 (c_chAt l D Dt b sz J49 n g TJ49 (p + 1) (by omega)) (by decide) (ly_Typed b) rfl rfl rfl rfl (Nat.le_of_ble_eq_true rfl) d_Translator_putSingle_64 (fun v I' hp64 => ?_)
        obtain ⟨rfl, hp64I⟩ := hp64
        have hp64I := hp64I.symm
        subst hp64I
        have hhp64 := TJ49.rng (p + 1)
        show ly_V κ b sz J49 67 [(0, .ref (b + 77)), (1, .ref (b + (82 + 4 * i))), (2, .int (dz_i p)), (3, .int (dz_i (g p))), (4, .int (dz_i (if 48 ≤ (g p) ∧ (g p) ≤ 57 then 1 else 0)))] [.int (dz_i (g (p + 1)))]
        refine ly_callS (rest := []) x cl_Translator_60 (c_Code_looksLikeDigit l D Dt b sz J49 (g (p + 1)) (by omega)) (by decide) rfl rfl (Nat.le_of_ble_eq_true rfl) d_Translator_putSingle_67 (fun v I' hp67 => ?_)
        obtain ⟨rfl, hp67I⟩ := hp67
        have hp67I := hp67I.symm
        subst hp67I
        show ly_V κ b sz J49 70 [(0, .ref (b + 77)), (1, .ref (b + (82 + 4 * i))), (2, .int (dz_i p)), (3, .int (dz_i (g p))), (4, .int (dz_i (if 48 ≤ (g p) ∧ (g p) ≤ 57 then 1 else 0)))] [.int (dz_i (if 97 ≤ (g (p + 1)) ∧ (g (p + 1)) ≤ 106 then 1 else 0))]
        refine dz_if_eq (tgt := 82) x.1 d_Translator_putSingle_70 (by decide) (dz_br _) (fun hc70 => ?_) (fun hc70 => ?_)
        · have hc70 : ¬ (97 ≤ (g (p + 1)) ∧ (g (p + 1)) ≤ 106) := dz_bf hc70
          have e3 : sp_s3 g p = [] := by
            unfold sp_s3
            rw [if_neg (by intro h; first | exact hc54 h.1 | exact hc70 h.2)]
          have OO : sp_O b i J49 (O ++ (sp_s1 g p ++ (sp_cell (g p), p) :: sp_s3 g p)) := by rw [e1, e3]; simpa using OJ49
          exact ly_vret x d_Translator_putSingle_82 ⟨rfl, FJ49, AJ49, OO⟩
        · have hc70 : 97 ≤ (g (p + 1)) ∧ (g (p + 1)) ≤ 106 := dz_bt hc70
          refine dz_aload_n x.1 1 d_Translator_putSingle_73 rfl rfl ?_
          refine dz_bipush x.1 d_Translator_putSingle_74 (by decide) ?_
          refine dz_iload_n x.1 2 d_Translator_putSingle_76 rfl rfl ?_
          refine dz_iconst x.1 d_Translator_putSingle_77 ?_
          refine dz_iadd (z := p + 1) x.1 d_Translator_putSingle_78 (by omega) ?_
          refine ly_callV (rest := []) x cl_Translator_50 (c_put l D Dt b sz J49 i hi (O ++ [((sp_cell (g p)), p)]) OJ49 (by simp only [List.length_append, List.length_cons, List.length_nil]; have l3 : (sp_s3 g p).length = 1 := (by unfold sp_s3; rw [if_pos ⟨hc54, hc70⟩]; rfl); omega) 48 (p + 1)) (by decide) (ly_Block b hi) rfl rfl rfl rfl (Nat.le_of_ble_eq_true rfl) d_Translator_putSingle_79 (fun v J79 hp79 => ?_)
          obtain ⟨rfl, hFJ79, hAJ79, OJ79⟩ := hp79
          have FJ79 : sp_fr I J79 (fun q => q = b + (82 + 4 * i) ∨ q = b + (83 + 4 * i)) := FJ49.tr hFJ79 (fun q h => h)
          have AJ79 : ∀ k : Int, k ≠ 2 → J79 (b + (82 + 4 * i)) k = I (b + (82 + 4 * i)) k := fun k hk => (hAJ79 k hk).trans (AJ49 k hk)
          have TJ79 : sp_T b J79 n g := TJ49.fr (hFJ79 _ (fun h => by rcases h with h | h <;> omega)) (hFJ79 _ (fun h => by rcases h with h | h <;> omega))
          show ly_V κ b sz J79 82 [(0, .ref (b + 77)), (1, .ref (b + (82 + 4 * i))), (2, .int (dz_i p)), (3, .int (dz_i (g p))), (4, .int (dz_i (if 48 ≤ (g p) ∧ (g p) ≤ 57 then 1 else 0)))] []
          have e3 : sp_s3 g p = [(48, p + 1)] := by
            unfold sp_s3
            rw [if_pos ⟨hc54, hc70⟩]
          have OO : sp_O b i J79 (O ++ (sp_s1 g p ++ (sp_cell (g p), p) :: sp_s3 g p)) := by rw [e1, e3]; simpa using OJ79
          exact ly_vret x d_Translator_putSingle_82 ⟨rfl, FJ79, AJ79, OO⟩
    · have hc33 : ¬ (48 ≤ (g (p - 1)) ∧ (g (p - 1)) ≤ 57) := dz_bf hc33
      refine dz_aload_n x.1 1 d_Translator_putSingle_36 rfl rfl ?_
      refine dz_bipush x.1 d_Translator_putSingle_37 (by decide) ?_
      refine dz_iload_n x.1 2 d_Translator_putSingle_39 rfl rfl ?_
      refine ly_callV (rest := []) x cl_Translator_50 (c_put l D Dt b sz I i hi (O) OI (by (try simp only [List.length_append, List.length_cons, List.length_nil]); omega) 60 p) (by decide) (ly_Block b hi) rfl rfl rfl rfl (Nat.le_of_ble_eq_true rfl) d_Translator_putSingle_40 (fun v J40 hp40 => ?_)
      obtain ⟨rfl, hFJ40, hAJ40, OJ40⟩ := hp40
      have FJ40 : sp_fr I J40 (fun q => q = b + (82 + 4 * i) ∨ q = b + (83 + 4 * i)) := FI.tr hFJ40 (fun q h => h)
      have AJ40 : ∀ k : Int, k ≠ 2 → J40 (b + (82 + 4 * i)) k = I (b + (82 + 4 * i)) k := fun k hk => (hAJ40 k hk).trans (AI k hk)
      have TJ40 : sp_T b J40 n g := TI.fr (hFJ40 _ (fun h => by rcases h with h | h <;> omega)) (hFJ40 _ (fun h => by rcases h with h | h <;> omega))
      show ly_V κ b sz J40 43 [(0, .ref (b + 77)), (1, .ref (b + (82 + 4 * i))), (2, .int (dz_i p)), (3, .int (dz_i (g p))), (4, .int (dz_i (if 48 ≤ (g p) ∧ (g p) ≤ 57 then 1 else 0)))] []
      have e1 : sp_s1 g p = [(60, p)] := by
        unfold sp_s1
        rw [if_pos ⟨hc17, hc33⟩]
      have l1 : (sp_s1 g p).length = 1 := by rw [e1]; rfl
      refine dz_aload_n x.1 1 d_Translator_putSingle_43 rfl rfl ?_
      refine dz_iload_n x.1 3 d_Translator_putSingle_44 rfl rfl ?_
      refine ly_callS (rest := [.ref (b + (82 + 4 * i))]) x cl_Translator_56 (c_Code_cellOf l D Dt b sz J40 (g p) (by omega)) (by decide) rfl rfl (Nat.le_of_ble_eq_true rfl) d_Translator_putSingle_45 (fun v I' hp45 => ?_)
      obtain ⟨rfl, hp45I⟩ := hp45
      have hp45I := hp45I.symm
      subst hp45I
      show ly_V κ b sz J40 48 [(0, .ref (b + 77)), (1, .ref (b + (82 + 4 * i))), (2, .int (dz_i p)), (3, .int (dz_i (g p))), (4, .int (dz_i (if 48 ≤ (g p) ∧ (g p) ≤ 57 then 1 else 0)))] [.int (dz_i (sp_cell (g p))), .ref (b + (82 + 4 * i))]
      refine dz_iload_n x.1 2 d_Translator_putSingle_48 rfl rfl ?_
      refine ly_callV (rest := []) x cl_Translator_50 (c_put l D Dt b sz J40 i hi (O ++ [(60, p)]) OJ40 (by (try simp only [List.length_append, List.length_cons, List.length_nil]); omega) (sp_cell (g p)) p) (by decide) (ly_Block b hi) rfl rfl rfl rfl (Nat.le_of_ble_eq_true rfl) d_Translator_putSingle_49 (fun v J49 hp49 => ?_)
      obtain ⟨rfl, hFJ49, hAJ49, OJ49⟩ := hp49
      have FJ49 : sp_fr I J49 (fun q => q = b + (82 + 4 * i) ∨ q = b + (83 + 4 * i)) := FJ40.tr hFJ49 (fun q h => h)
      have AJ49 : ∀ k : Int, k ≠ 2 → J49 (b + (82 + 4 * i)) k = I (b + (82 + 4 * i)) k := fun k hk => (hAJ49 k hk).trans (AJ40 k hk)
      have TJ49 : sp_T b J49 n g := TJ40.fr (hFJ49 _ (fun h => by rcases h with h | h <;> omega)) (hFJ49 _ (fun h => by rcases h with h | h <;> omega))
      show ly_V κ b sz J49 52 [(0, .ref (b + 77)), (1, .ref (b + (82 + 4 * i))), (2, .int (dz_i p)), (3, .int (dz_i (g p))), (4, .int (dz_i (if 48 ≤ (g p) ∧ (g p) ≤ 57 then 1 else 0)))] []
      refine dz_iload x.1 4 d_Translator_putSingle_52 rfl ?_
      refine dz_if_eq (tgt := 82) x.1 d_Translator_putSingle_54 (by decide) (dz_br _) (fun hc54 => ?_) (fun hc54 => ?_)
      · have hc54 : ¬ (48 ≤ (g p) ∧ (g p) ≤ 57) := dz_bf hc54
        have e3 : sp_s3 g p = [] := by
          unfold sp_s3
          rw [if_neg (by intro h; first | exact hc54 h.1 | exact hc70 h.2)]
        have OO : sp_O b i J49 (O ++ (sp_s1 g p ++ (sp_cell (g p), p) :: sp_s3 g p)) := by rw [e1, e3]; simpa using OJ49
        exact ly_vret x d_Translator_putSingle_82 ⟨rfl, FJ49, AJ49, OO⟩
      · have hc54 : 48 ≤ (g p) ∧ (g p) ≤ 57 := dz_bt hc54
        refine dz_aload_n x.1 0 d_Translator_putSingle_57 rfl rfl ?_
        refine dz_getr x.1 (ly_Translator b) fl_Translator_9 (lr_Translator_0 b) d_Translator_putSingle_58 ?_
        refine dz_iload_n x.1 2 d_Translator_putSingle_61 rfl rfl ?_
        refine dz_iconst x.1 d_Translator_putSingle_62 ?_
        refine dz_iadd (z := p + 1) x.1 d_Translator_putSingle_63 (by omega) ?_
        refine ly_callV (rest := []) x cl_Translator_25 (c_chAt l D Dt b sz J49 n g TJ49 (p + 1) (by omega)) (by decide) (ly_Typed b) rfl rfl rfl rfl (Nat.le_of_ble_eq_true rfl) d_Translator_putSingle_64 (fun v I' hp64 => ?_)
        obtain ⟨rfl, hp64I⟩ := hp64
        have hp64I := hp64I.symm
        subst hp64I
        have hhp64 := TJ49.rng (p + 1)
        show ly_V κ b sz J49 67 [(0, .ref (b + 77)), (1, .ref (b + (82 + 4 * i))), (2, .int (dz_i p)), (3, .int (dz_i (g p))), (4, .int (dz_i (if 48 ≤ (g p) ∧ (g p) ≤ 57 then 1 else 0)))] [.int (dz_i (g (p + 1)))]
        refine ly_callS (rest := []) x cl_Translator_60 (c_Code_looksLikeDigit l D Dt b sz J49 (g (p + 1)) (by omega)) (by decide) rfl rfl (Nat.le_of_ble_eq_true rfl) d_Translator_putSingle_67 (fun v I' hp67 => ?_)
        obtain ⟨rfl, hp67I⟩ := hp67
        have hp67I := hp67I.symm
        subst hp67I
        show ly_V κ b sz J49 70 [(0, .ref (b + 77)), (1, .ref (b + (82 + 4 * i))), (2, .int (dz_i p)), (3, .int (dz_i (g p))), (4, .int (dz_i (if 48 ≤ (g p) ∧ (g p) ≤ 57 then 1 else 0)))] [.int (dz_i (if 97 ≤ (g (p + 1)) ∧ (g (p + 1)) ≤ 106 then 1 else 0))]
        refine dz_if_eq (tgt := 82) x.1 d_Translator_putSingle_70 (by decide) (dz_br _) (fun hc70 => ?_) (fun hc70 => ?_)
        · have hc70 : ¬ (97 ≤ (g (p + 1)) ∧ (g (p + 1)) ≤ 106) := dz_bf hc70
          have e3 : sp_s3 g p = [] := by
            unfold sp_s3
            rw [if_neg (by intro h; first | exact hc54 h.1 | exact hc70 h.2)]
          have OO : sp_O b i J49 (O ++ (sp_s1 g p ++ (sp_cell (g p), p) :: sp_s3 g p)) := by rw [e1, e3]; simpa using OJ49
          exact ly_vret x d_Translator_putSingle_82 ⟨rfl, FJ49, AJ49, OO⟩
        · have hc70 : 97 ≤ (g (p + 1)) ∧ (g (p + 1)) ≤ 106 := dz_bt hc70
          refine dz_aload_n x.1 1 d_Translator_putSingle_73 rfl rfl ?_
          refine dz_bipush x.1 d_Translator_putSingle_74 (by decide) ?_
          refine dz_iload_n x.1 2 d_Translator_putSingle_76 rfl rfl ?_
          refine dz_iconst x.1 d_Translator_putSingle_77 ?_
          refine dz_iadd (z := p + 1) x.1 d_Translator_putSingle_78 (by omega) ?_
          refine ly_callV (rest := []) x cl_Translator_50 (c_put l D Dt b sz J49 i hi (O ++ [(60, p)] ++ [((sp_cell (g p)), p)]) OJ49 (by simp only [List.length_append, List.length_cons, List.length_nil]; have l3 : (sp_s3 g p).length = 1 := (by unfold sp_s3; rw [if_pos ⟨hc54, hc70⟩]; rfl); omega) 48 (p + 1)) (by decide) (ly_Block b hi) rfl rfl rfl rfl (Nat.le_of_ble_eq_true rfl) d_Translator_putSingle_79 (fun v J79 hp79 => ?_)
          obtain ⟨rfl, hFJ79, hAJ79, OJ79⟩ := hp79
          have FJ79 : sp_fr I J79 (fun q => q = b + (82 + 4 * i) ∨ q = b + (83 + 4 * i)) := FJ49.tr hFJ79 (fun q h => h)
          have AJ79 : ∀ k : Int, k ≠ 2 → J79 (b + (82 + 4 * i)) k = I (b + (82 + 4 * i)) k := fun k hk => (hAJ79 k hk).trans (AJ49 k hk)
          have TJ79 : sp_T b J79 n g := TJ49.fr (hFJ79 _ (fun h => by rcases h with h | h <;> omega)) (hFJ79 _ (fun h => by rcases h with h | h <;> omega))
          show ly_V κ b sz J79 82 [(0, .ref (b + 77)), (1, .ref (b + (82 + 4 * i))), (2, .int (dz_i p)), (3, .int (dz_i (g p))), (4, .int (dz_i (if 48 ≤ (g p) ∧ (g p) ≤ 57 then 1 else 0)))] []
          have e3 : sp_s3 g p = [(48, p + 1)] := by
            unfold sp_s3
            rw [if_pos ⟨hc54, hc70⟩]
          have OO : sp_O b i J79 (O ++ (sp_s1 g p ++ (sp_cell (g p), p) :: sp_s3 g p)) := by rw [e1, e3]; simpa using OJ79
          exact ly_vret x d_Translator_putSingle_82 ⟨rfl, FJ79, AJ79, OO⟩
set_option maxRecDepth 100000 in
set_option maxHeartbeats 4000000 in
theorem c_Translator_findWord (l : Launch) (D : va_G) (Dt : Nat → ClassId) (b sz : Nat) (I : dz_Hp) (n : Int) (g : Int → Int) (TI : sp_T b I n g) (q : Int) (hq : 0 ≤ q ∧ q < n) : ly_M l D Dt b sz y_Translator_findWord b_Translator_findWord 5 none 3 [.ref (b + 77), .int (dz_i q)] I (fun v I' => v = none ∧ I' = dz_up (dz_up (dz_up I (b + 77) 2 q) (b + 77) 3 (sp_we g q)) (b + 77) 4 (if sp_wc g q (sp_we g q) = true then 1 else 0)) := by
  refine ly_enter R_Translator (by decide) rfl (Nat.le_of_ble_eq_true rfl) (ly_cat _ 0 rfl) (fun κ x => ?_)
  have hN := ly_N x
  have hn9 := TI.nn
  have loop : ∀ (k : Nat) (i : Int) (ac : Bool), (q ≤ i ∧ i + (k : Int) = n) → (∀ j : Int, q ≤ j → j < i → sp_isL g j = true) → (ac = sp_all (sp_isC g q) (i - q).toNat) → ly_V κ b sz I 7 [(0, .ref (b + 77)), (1, .int (dz_i q)), (2, .int (dz_i (if ac = true then 1 else 0))), (3, .int (dz_i i)), (4, .int (dz_i i))] [] := by
    intro k
    induction k with
    | zero =>
      intro i ac hi hl hac
      refine dz_iload x.1 4 d_Translator_findWord_7 rfl ?_
      refine dz_aload_n x.1 0 d_Translator_findWord_9 rfl rfl ?_
      refine dz_getr x.1 (ly_Translator b) fl_Translator_9 (lr_Translator_0 b) d_Translator_findWord_10 ?_
      refine dz_geti (z := n) x.1 (ly_Typed b) fl_Translator_19 d_Translator_findWord_13 TI.1 ?_
      refine dz_icmp_ge (tgt := 70) x.1 d_Translator_findWord_16 (by decide) (by omega) (by omega) (fun hc16 => ?_) (fun hc16 => by exfalso; omega)
      have hwe : sp_we g q = i := sp_run_eq (by omega) (by omega) hl (Or.inr (decide_eq_false (by have := TI.out (i := i) (by omega); omega)))
      refine dz_aload_n x.1 0 d_Translator_findWord_70 rfl rfl ?_
      refine dz_iload_n x.1 1 d_Translator_findWord_71 rfl rfl ?_
      refine dz_puti x.1 (ly_Translator b) fl_Translator_66 fp_Translator_2 d_Translator_findWord_72 ?_
      refine dz_aload_n x.1 0 d_Translator_findWord_75 rfl rfl ?_
      refine dz_iload_n x.1 3 d_Translator_findWord_76 rfl rfl ?_
      refine dz_puti x.1 (ly_Translator b) fl_Translator_69 fp_Translator_3 d_Translator_findWord_77 ?_
      refine dz_aload_n x.1 0 d_Translator_findWord_80 rfl rfl ?_
      refine dz_iload_n x.1 2 d_Translator_findWord_81 rfl rfl ?_
      refine dz_if_eq (tgt := 96) x.1 d_Translator_findWord_82 (by decide) (dz_br _) (fun hc82 => ?_) (fun hc82 => ?_)
      · have hc82 : ¬ (ac = true) := dz_bf hc82
        refine dz_iconst x.1 d_Translator_findWord_96 ?_
        refine dz_putz x.1 (ly_Translator b) fl_Translator_72 fp_Translator_4 (by omega) d_Translator_findWord_97 ?_
        have hwc : sp_wc g q i = false := by
          unfold sp_wc; rw [← hac]
          first | (rw [Bool.eq_false_iff.mpr hc82]; rfl) | (rw [decide_eq_false (by omega)]; exact Bool.and_false _)
        exact ly_vret x d_Translator_findWord_100 ⟨rfl, by rw [hwe, sp_bf hwc]⟩
      · have hc82 : ac = true := dz_bt hc82
        refine dz_iload_n x.1 3 d_Translator_findWord_85 rfl rfl ?_
        refine dz_iload_n x.1 1 d_Translator_findWord_86 rfl rfl ?_
        refine dz_isub (z := i - q) x.1 d_Translator_findWord_87 (by omega) ?_
        refine dz_iconst x.1 d_Translator_findWord_88 ?_
        refine dz_icmp_lt (tgt := 96) x.1 d_Translator_findWord_89 (by decide) (by omega) (by omega) (fun hc89 => ?_) (fun hc89 => ?_)
        · refine dz_iconst x.1 d_Translator_findWord_96 ?_
          refine dz_putz x.1 (ly_Translator b) fl_Translator_72 fp_Translator_4 (by omega) d_Translator_findWord_97 ?_
          have hwc : sp_wc g q i = false := by
            unfold sp_wc; rw [← hac]
            first | (rw [Bool.eq_false_iff.mpr hc82]; rfl) | (rw [decide_eq_false (by omega)]; exact Bool.and_false _)
          exact ly_vret x d_Translator_findWord_100 ⟨rfl, by rw [hwe, sp_bf hwc]⟩
        · refine dz_iconst x.1 d_Translator_findWord_92 ?_
          refine dz_goto (tgt := 97) x.1 d_Translator_findWord_93 (by decide) ?_
          refine dz_putz x.1 (ly_Translator b) fl_Translator_72 fp_Translator_4 (by omega) d_Translator_findWord_97 ?_
          have hwc : sp_wc g q i = true := by
            unfold sp_wc; rw [← hac]
            rw [hc82, decide_eq_true (by omega)]; rfl
          exact ly_vret x d_Translator_findWord_100 ⟨rfl, by rw [hwe, sp_bt hwc]⟩
    | succ k ih =>
      intro i ac hi hl hac
      refine dz_iload x.1 4 d_Translator_findWord_7 rfl ?_
      refine dz_aload_n x.1 0 d_Translator_findWord_9 rfl rfl ?_
      refine dz_getr x.1 (ly_Translator b) fl_Translator_9 (lr_Translator_0 b) d_Translator_findWord_10 ?_
      refine dz_geti (z := n) x.1 (ly_Typed b) fl_Translator_19 d_Translator_findWord_13 TI.1 ?_
      refine dz_icmp_ge (tgt := 70) x.1 d_Translator_findWord_16 (by decide) (by omega) (by omega) (fun hc16 => by exfalso; omega) (fun hc16 => ?_)
      refine dz_aload_n x.1 0 d_Translator_findWord_19 rfl rfl ?_
      refine dz_getr x.1 (ly_Translator b) fl_Translator_9 (lr_Translator_0 b) d_Translator_findWord_20 ?_
      refine dz_iload x.1 4 d_Translator_findWord_23 rfl ?_
      refine ly_callV (rest := []) x cl_Translator_25 (c_chAt l D Dt b sz I n g TI i (by omega)) (by decide) (ly_Typed b) rfl rfl rfl rfl (Nat.le_of_ble_eq_true rfl) d_Translator_findWord_25 (fun v I' hp25 => ?_)
      obtain ⟨rfl, hp25I⟩ := hp25
      have hp25I := hp25I.symm
      subst hp25I
      have hhp25 := TI.rng i
      show ly_V κ b sz I 28 [(0, .ref (b + 77)), (1, .int (dz_i q)), (2, .int (dz_i (if ac = true then 1 else 0))), (3, .int (dz_i i)), (4, .int (dz_i i))] [.int (dz_i (g i))]
      refine ly_callS (rest := []) x cl_Translator_29 (c_Code_isLetter l D Dt b sz I (g i) (by omega)) (by decide) rfl rfl (Nat.le_of_ble_eq_true rfl) d_Translator_findWord_28 (fun v I' hp28 => ?_)
      obtain ⟨rfl, hp28I⟩ := hp28
      have hp28I := hp28I.symm
      subst hp28I
      show ly_V κ b sz I 31 [(0, .ref (b + 77)), (1, .int (dz_i q)), (2, .int (dz_i (if ac = true then 1 else 0))), (3, .int (dz_i i)), (4, .int (dz_i i))] [.int (dz_i (if (97 ≤ (g i) ∧ (g i) ≤ 122) ∨ (65 ≤ (g i) ∧ (g i) ≤ 90) then 1 else 0))]
      refine dz_if_eq (tgt := 70) x.1 d_Translator_findWord_31 (by decide) (dz_br _) (fun hc31 => ?_) (fun hc31 => ?_)
      · have hc31 : ¬ ((97 ≤ (g i) ∧ (g i) ≤ 122) ∨ (65 ≤ (g i) ∧ (g i) ≤ 90)) := dz_bf hc31
        have hwe : sp_we g q = i := sp_run_eq (by omega) (by omega) hl (Or.inr (decide_eq_false hc31))
        refine dz_aload_n x.1 0 d_Translator_findWord_70 rfl rfl ?_
        refine dz_iload_n x.1 1 d_Translator_findWord_71 rfl rfl ?_
        refine dz_puti x.1 (ly_Translator b) fl_Translator_66 fp_Translator_2 d_Translator_findWord_72 ?_
        refine dz_aload_n x.1 0 d_Translator_findWord_75 rfl rfl ?_
        refine dz_iload_n x.1 3 d_Translator_findWord_76 rfl rfl ?_
        refine dz_puti x.1 (ly_Translator b) fl_Translator_69 fp_Translator_3 d_Translator_findWord_77 ?_
        refine dz_aload_n x.1 0 d_Translator_findWord_80 rfl rfl ?_
        refine dz_iload_n x.1 2 d_Translator_findWord_81 rfl rfl ?_
        refine dz_if_eq (tgt := 96) x.1 d_Translator_findWord_82 (by decide) (dz_br _) (fun hc82 => ?_) (fun hc82 => ?_)
        · have hc82 : ¬ (ac = true) := dz_bf hc82
          refine dz_iconst x.1 d_Translator_findWord_96 ?_
          refine dz_putz x.1 (ly_Translator b) fl_Translator_72 fp_Translator_4 (by omega) d_Translator_findWord_97 ?_
          have hwc : sp_wc g q i = false := by
            unfold sp_wc; rw [← hac]
            first | (rw [Bool.eq_false_iff.mpr hc82]; rfl) | (rw [decide_eq_false (by omega)]; exact Bool.and_false _)
          exact ly_vret x d_Translator_findWord_100 ⟨rfl, by rw [hwe, sp_bf hwc]⟩
        · have hc82 : ac = true := dz_bt hc82
          refine dz_iload_n x.1 3 d_Translator_findWord_85 rfl rfl ?_
          refine dz_iload_n x.1 1 d_Translator_findWord_86 rfl rfl ?_
          refine dz_isub (z := i - q) x.1 d_Translator_findWord_87 (by omega) ?_
          refine dz_iconst x.1 d_Translator_findWord_88 ?_
          refine dz_icmp_lt (tgt := 96) x.1 d_Translator_findWord_89 (by decide) (by omega) (by omega) (fun hc89 => ?_) (fun hc89 => ?_)
          · refine dz_iconst x.1 d_Translator_findWord_96 ?_
            refine dz_putz x.1 (ly_Translator b) fl_Translator_72 fp_Translator_4 (by omega) d_Translator_findWord_97 ?_
            have hwc : sp_wc g q i = false := by
              unfold sp_wc; rw [← hac]
              first | (rw [Bool.eq_false_iff.mpr hc82]; rfl) | (rw [decide_eq_false (by omega)]; exact Bool.and_false _)
            exact ly_vret x d_Translator_findWord_100 ⟨rfl, by rw [hwe, sp_bf hwc]⟩
          · refine dz_iconst x.1 d_Translator_findWord_92 ?_
            refine dz_goto (tgt := 97) x.1 d_Translator_findWord_93 (by decide) ?_
            refine dz_putz x.1 (ly_Translator b) fl_Translator_72 fp_Translator_4 (by omega) d_Translator_findWord_97 ?_
            have hwc : sp_wc g q i = true := by
              unfold sp_wc; rw [← hac]
              rw [hc82, decide_eq_true (by omega)]; rfl
            exact ly_vret x d_Translator_findWord_100 ⟨rfl, by rw [hwe, sp_bt hwc]⟩
      · have hc31 : (97 ≤ (g i) ∧ (g i) ≤ 122) ∨ (65 ≤ (g i) ∧ (g i) ≤ 90) := dz_bt hc31
        refine dz_iload_n x.1 2 d_Translator_findWord_34 rfl rfl ?_
        refine dz_if_eq (tgt := 57) x.1 d_Translator_findWord_35 (by decide) (dz_br _) (fun hc35 => ?_) (fun hc35 => ?_)
        · have hc35 : ¬ (ac = true) := dz_bf hc35
          refine dz_iconst x.1 d_Translator_findWord_57 ?_
          refine dz_istore_n (ls' := [(0, .ref (b + 77)), (1, .int (dz_i q)), (2, .int (dz_i 0)), (3, .int (dz_i i)), (4, .int (dz_i i))]) x.1 d_Translator_findWord_58 rfl hN (by decide) rfl ?_
          refine dz_iload x.1 4 d_Translator_findWord_59 rfl ?_
          refine dz_iconst x.1 d_Translator_findWord_61 ?_
          refine dz_iadd (z := i + 1) x.1 d_Translator_findWord_62 (by omega) ?_
          refine dz_istore_n (ls' := [(0, .ref (b + 77)), (1, .int (dz_i q)), (2, .int (dz_i 0)), (3, .int (dz_i (i + 1))), (4, .int (dz_i i))]) x.1 d_Translator_findWord_63 rfl hN (by decide) rfl ?_
          refine dz_iinc (z := i + 1) (ls' := [(0, .ref (b + 77)), (1, .int (dz_i q)), (2, .int (dz_i 0)), (3, .int (dz_i (i + 1))), (4, .int (dz_i (i + 1)))]) x.1 4 d_Translator_findWord_64 rfl hN (by decide) (by omega) rfl ?_
          refine dz_goto (tgt := 7) x.1 d_Translator_findWord_67 (by decide) ?_
          exact ih (i + 1) false (by omega) (fun j h1 h2 => by
            by_cases e : j = i
            · rw [e]; exact decide_eq_true hc31
            · exact hl j h1 (by omega)) (by rw [show (i + 1 - q).toNat = (i - q).toNat + 1 by omega]; simp only [sp_all]; rw [← hac, show ((i - q).toNat : Int) = i - q by omega]; unfold sp_isC; rw [show q + (i - q) = i by omega]; first | (rw [Bool.eq_false_iff.mpr hc35]; rfl) | (rw [decide_eq_false hc50]; exact (Bool.and_false _).symm))
        · have hc35 : ac = true := dz_bt hc35
          refine dz_aload_n x.1 0 d_Translator_findWord_38 rfl rfl ?_
          refine dz_getr x.1 (ly_Translator b) fl_Translator_9 (lr_Translator_0 b) d_Translator_findWord_39 ?_
          refine dz_iload x.1 4 d_Translator_findWord_42 rfl ?_
          refine ly_callV (rest := []) x cl_Translator_25 (c_chAt l D Dt b sz I n g TI i (by omega)) (by decide) (ly_Typed b) rfl rfl rfl rfl (Nat.le_of_ble_eq_true rfl) d_Translator_findWord_44 (fun v I' hp44 => ?_)
          obtain ⟨rfl, hp44I⟩ := hp44
          have hp44I := hp44I.symm
          subst hp44I
          have hhp44 := TI.rng i
          show ly_V κ b sz I 47 [(0, .ref (b + 77)), (1, .int (dz_i q)), (2, .int (dz_i (if ac = true then 1 else 0))), (3, .int (dz_i i)), (4, .int (dz_i i))] [.int (dz_i (g i))]
          refine ly_callS (rest := []) x cl_Translator_63 (c_Code_isCapital l D Dt b sz I (g i) (by omega)) (by decide) rfl rfl (Nat.le_of_ble_eq_true rfl) d_Translator_findWord_47 (fun v I' hp47 => ?_)
          obtain ⟨rfl, hp47I⟩ := hp47
          have hp47I := hp47I.symm
          subst hp47I
          show ly_V κ b sz I 50 [(0, .ref (b + 77)), (1, .int (dz_i q)), (2, .int (dz_i (if ac = true then 1 else 0))), (3, .int (dz_i i)), (4, .int (dz_i i))] [.int (dz_i (if 65 ≤ (g i) ∧ (g i) ≤ 90 then 1 else 0))]
          refine dz_if_eq (tgt := 57) x.1 d_Translator_findWord_50 (by decide) (dz_br _) (fun hc50 => ?_) (fun hc50 => ?_)
          · have hc50 : ¬ (65 ≤ (g i) ∧ (g i) ≤ 90) := dz_bf hc50
            refine dz_iconst x.1 d_Translator_findWord_57 ?_
            refine dz_istore_n (ls' := [(0, .ref (b + 77)), (1, .int (dz_i q)), (2, .int (dz_i 0)), (3, .int (dz_i i)), (4, .int (dz_i i))]) x.1 d_Translator_findWord_58 rfl hN (by decide) rfl ?_
            refine dz_iload x.1 4 d_Translator_findWord_59 rfl ?_
            refine dz_iconst x.1 d_Translator_findWord_61 ?_
            refine dz_iadd (z := i + 1) x.1 d_Translator_findWord_62 (by omega) ?_
            refine dz_istore_n (ls' := [(0, .ref (b + 77)), (1, .int (dz_i q)), (2, .int (dz_i 0)), (3, .int (dz_i (i + 1))), (4, .int (dz_i i))]) x.1 d_Translator_findWord_63 rfl hN (by decide) rfl ?_
            refine dz_iinc (z := i + 1) (ls' := [(0, .ref (b + 77)), (1, .int (dz_i q)), (2, .int (dz_i 0)), (3, .int (dz_i (i + 1))), (4, .int (dz_i (i + 1)))]) x.1 4 d_Translator_findWord_64 rfl hN (by decide) (by omega) rfl ?_
            refine dz_goto (tgt := 7) x.1 d_Translator_findWord_67 (by decide) ?_
            exact ih (i + 1) false (by omega) (fun j h1 h2 => by
              by_cases e : j = i
              · rw [e]; exact decide_eq_true hc31
              · exact hl j h1 (by omega)) (by rw [show (i + 1 - q).toNat = (i - q).toNat + 1 by omega]; simp only [sp_all]; rw [← hac, show ((i - q).toNat : Int) = i - q by omega]; unfold sp_isC; rw [show q + (i - q) = i by omega]; first | (rw [Bool.eq_false_iff.mpr hc35]; rfl) | (rw [decide_eq_false hc50]; exact (Bool.and_false _).symm))
          · have hc50 : 65 ≤ (g i) ∧ (g i) ≤ 90 := dz_bt hc50
            refine dz_iconst x.1 d_Translator_findWord_53 ?_
            refine dz_goto (tgt := 58) x.1 d_Translator_findWord_54 (by decide) ?_
            refine dz_istore_n (ls' := [(0, .ref (b + 77)), (1, .int (dz_i q)), (2, .int (dz_i 1)), (3, .int (dz_i i)), (4, .int (dz_i i))]) x.1 d_Translator_findWord_58 rfl hN (by decide) rfl ?_
            refine dz_iload x.1 4 d_Translator_findWord_59 rfl ?_
            refine dz_iconst x.1 d_Translator_findWord_61 ?_
            refine dz_iadd (z := i + 1) x.1 d_Translator_findWord_62 (by omega) ?_
            refine dz_istore_n (ls' := [(0, .ref (b + 77)), (1, .int (dz_i q)), (2, .int (dz_i 1)), (3, .int (dz_i (i + 1))), (4, .int (dz_i i))]) x.1 d_Translator_findWord_63 rfl hN (by decide) rfl ?_
            refine dz_iinc (z := i + 1) (ls' := [(0, .ref (b + 77)), (1, .int (dz_i q)), (2, .int (dz_i 1)), (3, .int (dz_i (i + 1))), (4, .int (dz_i (i + 1)))]) x.1 4 d_Translator_findWord_64 rfl hN (by decide) (by omega) rfl ?_
            refine dz_goto (tgt := 7) x.1 d_Translator_findWord_67 (by decide) ?_
            exact ih (i + 1) true (by omega) (fun j h1 h2 => by
              by_cases e : j = i
              · rw [e]; exact decide_eq_true hc31
              · exact hl j h1 (by omega)) (by rw [show (i + 1 - q).toNat = (i - q).toNat + 1 by omega]; simp only [sp_all]; rw [← hac, show ((i - q).toNat : Int) = i - q by omega]; unfold sp_isC; rw [show q + (i - q) = i by omega]; rw [hc35, decide_eq_true hc50]; rfl)
  show ly_V κ b sz I 0 [(0, .ref (b + 77)), (1, .int (dz_i q))] []
  refine dz_iconst x.1 d_Translator_findWord_0 ?_
  refine dz_istore_n (ls' := [(0, .ref (b + 77)), (1, .int (dz_i q)), (2, .int (dz_i 1))]) x.1 d_Translator_findWord_1 rfl hN (by decide) rfl ?_
  refine dz_iload_n x.1 1 d_Translator_findWord_2 rfl rfl ?_
  refine dz_istore_n (ls' := [(0, .ref (b + 77)), (1, .int (dz_i q)), (2, .int (dz_i 1)), (3, .int (dz_i q))]) x.1 d_Translator_findWord_3 rfl hN (by decide) rfl ?_
  refine dz_iload_n x.1 1 d_Translator_findWord_4 rfl rfl ?_
  refine dz_istore (ls' := [(0, .ref (b + 77)), (1, .int (dz_i q)), (2, .int (dz_i 1)), (3, .int (dz_i q)), (4, .int (dz_i q))]) x.1 d_Translator_findWord_5 hN (by decide) rfl ?_
  exact loop (n - q).toNat q true (by omega) (fun j h1 h2 => by omega) (by rw [show (q - q).toNat = 0 by omega]; rfl)
set_option maxRecDepth 100000 in
set_option maxHeartbeats 4000000 in
theorem c_Translator_putLettersAt (l : Launch) (D : va_G) (Dt : Nat → ClassId) (b sz : Nat) (I : dz_Hp) (n : Int) (g : Int → Int) (TI : sp_T b I n g) (c : Nat) (S : Nat → sp_Ru) (RI : sp_RC b I c S) (bg e : Int) (a : Bool) (WI : sp_TR b I bg e a) (he : 0 ≤ bg ∧ bg ≤ e ∧ e ≤ 100) (i : Nat) (hi : i < 12) (O : List (Int × Int)) (OI : sp_O b i I O) (p : Int) (hp : 0 ≤ p ∧ p < 200) (hlen : O.length + (sp_step g c S bg e a p).1.length ≤ 200) : ly_M l D Dt b sz y_Translator_putLettersAt b_Translator_putLettersAt 6 (some .int) 6 [.ref (b + 77), .ref (b + (82 + 4 * i)), .int (dz_i p)] I (fun v I' => v = some (.int (dz_i (sp_step g c S bg e a p).2)) ∧ sp_fr I I' (fun q => q = b + (82 + 4 * i) ∨ q = b + (83 + 4 * i)) ∧ (∀ k : Int, k ≠ 2 → I' (b + (82 + 4 * i)) k = I (b + (82 + 4 * i)) k) ∧ sp_O b i I' (O ++ (sp_step g c S bg e a p).1)) := by
  refine ly_enter R_Translator (by decide) rfl (Nat.le_of_ble_eq_true rfl) (ly_cat _ 0 rfl) (fun κ x => ?_)
  have hN := ly_N x
  have FI : sp_fr I I (fun q => q = b + (82 + 4 * i) ∨ q = b + (83 + 4 * i)) := sp_fr.rf
  have AI : ∀ k : Int, k ≠ 2 → I (b + (82 + 4 * i)) k = I (b + (82 + 4 * i)) k := fun k hk => rfl
  have hsl := (sp_step_len (g := g) (bg := bg) (e := e) (a := a) (p := p) RI.wf).1
  show ly_V κ b sz I 0 [(0, .ref (b + 77)), (1, .ref (b + (82 + 4 * i))), (2, .int (dz_i p))] []
  refine dz_aload_n x.1 0 d_Translator_putLettersAt_0 rfl rfl ?_
  refine dz_getr x.1 (ly_Translator b) fl_Translator_9 (lr_Translator_0 b) d_Translator_putLettersAt_1 ?_
  refine dz_iload_n x.1 2 d_Translator_putLettersAt_4 rfl rfl ?_
  refine ly_callV (rest := []) x cl_Translator_25 (c_chAt l D Dt b sz I n g TI p (by omega)) (by decide) (ly_Typed b) rfl rfl rfl rfl (Nat.le_of_ble_eq_true rfl) d_Translator_putLettersAt_5 (fun v I' hp5 => ?_)
  obtain ⟨rfl, hp5I⟩ := hp5
  have hp5I := hp5I.symm
  subst hp5I
  have hhp5 := TI.rng p
  show ly_V κ b sz I 8 [(0, .ref (b + 77)), (1, .ref (b + (82 + 4 * i))), (2, .int (dz_i p))] [.int (dz_i (g p))]
  refine dz_istore_n (ls' := [(0, .ref (b + 77)), (1, .ref (b + (82 + 4 * i))), (2, .int (dz_i p)), (3, .int (dz_i (g p)))]) x.1 d_Translator_putLettersAt_8 rfl hN (by decide) rfl ?_
  refine dz_aload_n x.1 0 d_Translator_putLettersAt_9 rfl rfl ?_
  refine dz_geti (z := (if a = true then 1 else 0)) x.1 (ly_Translator b) fl_Translator_72 d_Translator_putLettersAt_10 WI.2.2 ?_
  refine dz_if_ne (tgt := 30) x.1 d_Translator_putLettersAt_13 (by decide) (dz_br _) (fun hc13 => ?_) (fun hc13 => ?_)
  · have hc13 : a = true := dz_bt hc13
    have e1 : sp_sgn g a p = [] := by
      unfold sp_sgn
      rw [if_neg (by intro h; first | exact h.1 hc13 | exact hc20 h.2)]
    have l1 : (sp_sgn g a p).length = 0 := by rw [e1]; rfl
    refine dz_aload_n x.1 0 d_Translator_putLettersAt_30 rfl rfl ?_
    refine dz_iload_n x.1 2 d_Translator_putLettersAt_31 rfl rfl ?_
    refine ly_callV (rest := []) x cl_Translator_80 (c_Translator_ruleAt l D Dt b sz I n g TI c S RI bg e a WI he p (by omega)) (by decide) (ly_Translator b) rfl rfl rfl rfl (Nat.le_of_ble_eq_true rfl) d_Translator_putLettersAt_32 (fun v I' hp9 => ?_)
    obtain ⟨hp9, hpI⟩ := hp9
    have hpI := hpI.symm
    subst hpI
    rcases hp9 with ⟨rfl, hb⟩ | ⟨j, hj, rfl, hb⟩
    · have hst : sp_step g c S bg e a p = (sp_sgn g a p ++ [(sp_cell (g p), p)], 1) := by unfold sp_step; rw [hb]
      show ly_V κ b sz I 35 [(0, .ref (b + 77)), (1, .ref (b + (82 + 4 * i))), (2, .int (dz_i p)), (3, .int (dz_i (g p)))] [.null]
      refine dz_astoreN (ls' := [(0, .ref (b + 77)), (1, .ref (b + (82 + 4 * i))), (2, .int (dz_i p)), (3, .int (dz_i (g p))), (4, .null)]) x.1 d_Translator_putLettersAt_35 hN (by decide) rfl ?_
      refine dz_aloadN x.1 4 d_Translator_putLettersAt_37 rfl ?_
      refine dz_ifnonnullN x.1 d_Translator_putLettersAt_39 ?_
      refine dz_aload_n x.1 1 d_Translator_putLettersAt_42 rfl rfl ?_
      refine dz_iload_n x.1 3 d_Translator_putLettersAt_43 rfl rfl ?_
      refine ly_callS (rest := [.ref (b + (82 + 4 * i))]) x cl_Translator_56 (c_Code_cellOf l D Dt b sz I (g p) (by omega)) (by decide) rfl rfl (Nat.le_of_ble_eq_true rfl) d_Translator_putLettersAt_44 (fun v I' hp44 => ?_)
      obtain ⟨rfl, hp44I⟩ := hp44
      have hp44I := hp44I.symm
      subst hp44I
      show ly_V κ b sz I 47 [(0, .ref (b + 77)), (1, .ref (b + (82 + 4 * i))), (2, .int (dz_i p)), (3, .int (dz_i (g p))), (4, .null)] [.int (dz_i (sp_cell (g p))), .ref (b + (82 + 4 * i))]
      refine dz_iload_n x.1 2 d_Translator_putLettersAt_47 rfl rfl ?_
      refine ly_callV (rest := []) x cl_Translator_50 (c_put l D Dt b sz I i hi (O) OI (by rw [hst] at hlen; simp only [List.length_append, List.length_cons, List.length_nil] at hlen ⊢; omega) (sp_cell (g p)) p) (by decide) (ly_Block b hi) rfl rfl rfl rfl (Nat.le_of_ble_eq_true rfl) d_Translator_putLettersAt_48 (fun v J48 hp48 => ?_)
      obtain ⟨rfl, hFJ48, hAJ48, OJ48⟩ := hp48
      have FJ48 : sp_fr I J48 (fun q => q = b + (82 + 4 * i) ∨ q = b + (83 + 4 * i)) := FI.tr hFJ48 (fun q h => h)
      have AJ48 : ∀ k : Int, k ≠ 2 → J48 (b + (82 + 4 * i)) k = I (b + (82 + 4 * i)) k := fun k hk => (hAJ48 k hk).trans (AI k hk)
      have TJ48 : sp_T b J48 n g := TI.fr (hFJ48 _ (fun h => by rcases h with h | h <;> omega)) (hFJ48 _ (fun h => by rcases h with h | h <;> omega))
      have RJ48 : sp_RC b J48 c S := RI.fr (by rw [hFJ48 _ (fun h => by rcases h with h | h <;> omega)]) (fun q h1 h2 => hFJ48 _ (fun h => by rcases h with h | h <;> omega))
      have WJ48 : sp_TR b J48 bg e a := WI.fr (hFJ48 _ (fun h => by rcases h with h | h <;> omega))
      show ly_V κ b sz J48 51 [(0, .ref (b + 77)), (1, .ref (b + (82 + 4 * i))), (2, .int (dz_i p)), (3, .int (dz_i (g p))), (4, .null)] []
      refine dz_iconst x.1 d_Translator_putLettersAt_51 ?_
      exact ly_iret x d_Translator_putLettersAt_52 rfl ⟨by rw [hst], FJ48, AJ48, by rw [hst]; show sp_O b i J48 (O ++ (sp_sgn g a p ++ [(sp_cell (g p), p)])); rw [e1]; simpa using OJ48⟩
    · have hst : sp_step g c S bg e a p = (sp_sgn g a p ++ sp_cl (S j) p (sp_cn (S j)).toNat, sp_ln (S j)) := by unfold sp_step; rw [hb]
      have hj24 : j < 24 := by have := RI.2.1; omega
      have hwj := (RI.2.2 j hj).2.2.2.1
      have hwl := (RI.2.2 j hj).2.2.1
      show ly_V κ b sz I 35 [(0, .ref (b + 77)), (1, .ref (b + (82 + 4 * i))), (2, .int (dz_i p)), (3, .int (dz_i (g p)))] [.ref (b + (5 + 3 * j))]
      refine dz_astore (ls' := [(0, .ref (b + 77)), (1, .ref (b + (82 + 4 * i))), (2, .int (dz_i p)), (3, .int (dz_i (g p))), (4, .ref (b + (5 + 3 * j)))]) x.1 d_Translator_putLettersAt_35 hN (by decide) rfl ?_
      refine dz_aload x.1 4 d_Translator_putLettersAt_37 rfl ?_
      refine dz_ifnonnull (tgt := 53) x.1 d_Translator_putLettersAt_39 (by decide) ?_
      refine dz_iconst x.1 d_Translator_putLettersAt_53 ?_
      refine dz_istore (ls' := [(0, .ref (b + 77)), (1, .ref (b + (82 + 4 * i))), (2, .int (dz_i p)), (3, .int (dz_i (g p))), (4, .ref (b + (5 + 3 * j))), (5, .int (dz_i 0))]) x.1 d_Translator_putLettersAt_54 hN (by decide) rfl ?_
      have loop : ∀ (k : Nat) (q : Nat) (J : dz_Hp), ((q : Int) + (k : Int) = sp_cn (S j)) → (sp_fr I J (fun q => q = b + (82 + 4 * i) ∨ q = b + (83 + 4 * i))) → (∀ k : Int, k ≠ 2 → J (b + (82 + 4 * i)) k = I (b + (82 + 4 * i)) k) → (sp_T b J n g) → (sp_RC b J c S) → (sp_TR b J bg e a) → (sp_O b i J (O ++ sp_cl (S j) p q)) → ly_V κ b sz J 56 [(0, .ref (b + 77)), (1, .ref (b + (82 + 4 * i))), (2, .int (dz_i p)), (3, .int (dz_i (g p))), (4, .ref (b + (5 + 3 * j))), (5, .int (dz_i (q : Int)))] [] := by
        intro k
        induction k with
        | zero =>
          intro q J hq FJ AJ TJ RJ WJ OJ
          refine dz_iload x.1 5 d_Translator_putLettersAt_56 rfl ?_
          refine dz_aload x.1 4 d_Translator_putLettersAt_58 rfl ?_
          refine dz_geti (z := (sp_cn (S j))) x.1 (ly_Rule b hj24) fl_Translator_84 d_Translator_putLettersAt_60 (RJ.2.2 j hj).1.2.2.1 ?_
          refine dz_icmp_ge (tgt := 85) x.1 d_Translator_putLettersAt_63 (by decide) (by omega) (by omega) (fun hc63 => ?_) (fun hc63 => by exfalso; omega)
          refine dz_aload x.1 4 d_Translator_putLettersAt_85 rfl ?_
          refine dz_geti (z := (sp_ln (S j))) x.1 (ly_Rule b hj24) fl_Translator_93 d_Translator_putLettersAt_87 (RJ.2.2 j hj).1.2.1 ?_
          exact ly_iret x d_Translator_putLettersAt_90 rfl ⟨by rw [hst], FJ, AJ, by rw [hst]; show sp_O b i J (O ++ (sp_sgn g a p ++ _)); rw [e1, show (sp_cn (S j)).toNat = q by omega]; simpa using OJ⟩
        | succ k ih =>
          intro q J hq FJ AJ TJ RJ WJ OJ
          refine dz_iload x.1 5 d_Translator_putLettersAt_56 rfl ?_
          refine dz_aload x.1 4 d_Translator_putLettersAt_58 rfl ?_
          refine dz_geti (z := (sp_cn (S j))) x.1 (ly_Rule b hj24) fl_Translator_84 d_Translator_putLettersAt_60 (RJ.2.2 j hj).1.2.2.1 ?_
          refine dz_icmp_ge (tgt := 85) x.1 d_Translator_putLettersAt_63 (by decide) (by omega) (by omega) (fun hc63 => by exfalso; omega) (fun hc63 => ?_)
          refine dz_aload_n x.1 1 d_Translator_putLettersAt_66 rfl rfl ?_
          refine dz_aload x.1 4 d_Translator_putLettersAt_67 rfl ?_
          refine dz_getr x.1 (ly_Rule b hj24) fl_Translator_89 (lr_Rule_3 b hj24) d_Translator_putLettersAt_69 ?_
          refine dz_iload x.1 5 d_Translator_putLettersAt_72 rfl ?_
          refine dz_iald (w := (sp_ce (S j) (q : Int))) x.1 (ly_RCells b hj24) (by decide) (by omega) d_Translator_putLettersAt_74 ((RJ.2.2 j hj).1.2.2.2.2 q (by omega) (by omega)) ?_
          refine dz_iload_n x.1 2 d_Translator_putLettersAt_75 rfl rfl ?_
          refine ly_callV (rest := []) x cl_Translator_50 (c_put l D Dt b sz J i hi (O ++ sp_cl (S j) p q) OJ (by rw [hst] at hlen; simp only [List.length_append, List.length_cons, List.length_nil, sp_cl_len] at hlen ⊢; omega) (sp_ce (S j) (q : Int)) p) (by decide) (ly_Block b hi) rfl rfl rfl rfl (Nat.le_of_ble_eq_true rfl) d_Translator_putLettersAt_76 (fun v J76 hp76 => ?_)
          obtain ⟨rfl, hFJ76, hAJ76, OJ76⟩ := hp76
          have FJ76 : sp_fr I J76 (fun q => q = b + (82 + 4 * i) ∨ q = b + (83 + 4 * i)) := FJ.tr hFJ76 (fun q h => h)
          have AJ76 : ∀ k : Int, k ≠ 2 → J76 (b + (82 + 4 * i)) k = I (b + (82 + 4 * i)) k := fun k hk => (hAJ76 k hk).trans (AJ k hk)
          have TJ76 : sp_T b J76 n g := TJ.fr (hFJ76 _ (fun h => by rcases h with h | h <;> omega)) (hFJ76 _ (fun h => by rcases h with h | h <;> omega))
          have RJ76 : sp_RC b J76 c S := RJ.fr (by rw [hFJ76 _ (fun h => by rcases h with h | h <;> omega)]) (fun q h1 h2 => hFJ76 _ (fun h => by rcases h with h | h <;> omega))
          have WJ76 : sp_TR b J76 bg e a := WJ.fr (hFJ76 _ (fun h => by rcases h with h | h <;> omega))
          show ly_V κ b sz J76 79 [(0, .ref (b + 77)), (1, .ref (b + (82 + 4 * i))), (2, .int (dz_i p)), (3, .int (dz_i (g p))), (4, .ref (b + (5 + 3 * j))), (5, .int (dz_i (q : Int)))] []
          refine dz_iinc (z := (q : Int) + 1) (ls' := [(0, .ref (b + 77)), (1, .ref (b + (82 + 4 * i))), (2, .int (dz_i p)), (3, .int (dz_i (g p))), (4, .ref (b + (5 + 3 * j))), (5, .int (dz_i ((q : Int) + 1)))]) x.1 5 d_Translator_putLettersAt_79 rfl hN (by decide) (by omega) rfl ?_
          refine dz_goto (tgt := 56) x.1 d_Translator_putLettersAt_82 (by decide) ?_
          have OK : sp_O b i J76 (O ++ sp_cl (S j) p (q + 1)) := by have h := OJ76; rw [List.append_assoc] at h; exact h
          exact ih (q + 1) J76 (by omega) FJ76 AJ76 TJ76 RJ76 WJ76 OK
      exact loop (sp_cn (S j)).toNat 0 I (by omega) FI AI TI RI WI (by simpa [sp_cl] using OI)
  · have hc13 : ¬ (a = true) := dz_bf hc13
    refine dz_iload_n x.1 3 d_Translator_putLettersAt_16 rfl rfl ?_
    refine ly_callS (rest := []) x cl_Translator_63 (c_Code_isCapital l D Dt b sz I (g p) (by omega)) (by decide) rfl rfl (Nat.le_of_ble_eq_true rfl) d_Translator_putLettersAt_17 (fun v I' hp17 => ?_)
    obtain ⟨rfl, hp17I⟩ := hp17
    have hp17I := hp17I.symm
    subst hp17I
    show ly_V κ b sz I 20 [(0, .ref (b + 77)), (1, .ref (b + (82 + 4 * i))), (2, .int (dz_i p)), (3, .int (dz_i (g p)))] [.int (dz_i (if 65 ≤ (g p) ∧ (g p) ≤ 90 then 1 else 0))]
    refine dz_if_eq (tgt := 30) x.1 d_Translator_putLettersAt_20 (by decide) (dz_br _) (fun hc20 => ?_) (fun hc20 => ?_)
    · have hc20 : ¬ (65 ≤ (g p) ∧ (g p) ≤ 90) := dz_bf hc20
      have e1 : sp_sgn g a p = [] := by
        unfold sp_sgn
        rw [if_neg (by intro h; first | exact h.1 hc13 | exact hc20 h.2)]
      have l1 : (sp_sgn g a p).length = 0 := by rw [e1]; rfl
      refine dz_aload_n x.1 0 d_Translator_putLettersAt_30 rfl rfl ?_
      refine dz_iload_n x.1 2 d_Translator_putLettersAt_31 rfl rfl ?_
      refine ly_callV (rest := []) x cl_Translator_80 (c_Translator_ruleAt l D Dt b sz I n g TI c S RI bg e a WI he p (by omega)) (by decide) (ly_Translator b) rfl rfl rfl rfl (Nat.le_of_ble_eq_true rfl) d_Translator_putLettersAt_32 (fun v I' hp9 => ?_)
      obtain ⟨hp9, hpI⟩ := hp9
      have hpI := hpI.symm
      subst hpI
      rcases hp9 with ⟨rfl, hb⟩ | ⟨j, hj, rfl, hb⟩
      · have hst : sp_step g c S bg e a p = (sp_sgn g a p ++ [(sp_cell (g p), p)], 1) := by unfold sp_step; rw [hb]
        show ly_V κ b sz I 35 [(0, .ref (b + 77)), (1, .ref (b + (82 + 4 * i))), (2, .int (dz_i p)), (3, .int (dz_i (g p)))] [.null]
        refine dz_astoreN (ls' := [(0, .ref (b + 77)), (1, .ref (b + (82 + 4 * i))), (2, .int (dz_i p)), (3, .int (dz_i (g p))), (4, .null)]) x.1 d_Translator_putLettersAt_35 hN (by decide) rfl ?_
        refine dz_aloadN x.1 4 d_Translator_putLettersAt_37 rfl ?_
        refine dz_ifnonnullN x.1 d_Translator_putLettersAt_39 ?_
        refine dz_aload_n x.1 1 d_Translator_putLettersAt_42 rfl rfl ?_
        refine dz_iload_n x.1 3 d_Translator_putLettersAt_43 rfl rfl ?_
        refine ly_callS (rest := [.ref (b + (82 + 4 * i))]) x cl_Translator_56 (c_Code_cellOf l D Dt b sz I (g p) (by omega)) (by decide) rfl rfl (Nat.le_of_ble_eq_true rfl) d_Translator_putLettersAt_44 (fun v I' hp44 => ?_)
        obtain ⟨rfl, hp44I⟩ := hp44
        have hp44I := hp44I.symm
        subst hp44I
        show ly_V κ b sz I 47 [(0, .ref (b + 77)), (1, .ref (b + (82 + 4 * i))), (2, .int (dz_i p)), (3, .int (dz_i (g p))), (4, .null)] [.int (dz_i (sp_cell (g p))), .ref (b + (82 + 4 * i))]
        refine dz_iload_n x.1 2 d_Translator_putLettersAt_47 rfl rfl ?_
        refine ly_callV (rest := []) x cl_Translator_50 (c_put l D Dt b sz I i hi (O) OI (by rw [hst] at hlen; simp only [List.length_append, List.length_cons, List.length_nil] at hlen ⊢; omega) (sp_cell (g p)) p) (by decide) (ly_Block b hi) rfl rfl rfl rfl (Nat.le_of_ble_eq_true rfl) d_Translator_putLettersAt_48 (fun v J48 hp48 => ?_)
        obtain ⟨rfl, hFJ48, hAJ48, OJ48⟩ := hp48
        have FJ48 : sp_fr I J48 (fun q => q = b + (82 + 4 * i) ∨ q = b + (83 + 4 * i)) := FI.tr hFJ48 (fun q h => h)
        have AJ48 : ∀ k : Int, k ≠ 2 → J48 (b + (82 + 4 * i)) k = I (b + (82 + 4 * i)) k := fun k hk => (hAJ48 k hk).trans (AI k hk)
        have TJ48 : sp_T b J48 n g := TI.fr (hFJ48 _ (fun h => by rcases h with h | h <;> omega)) (hFJ48 _ (fun h => by rcases h with h | h <;> omega))
        have RJ48 : sp_RC b J48 c S := RI.fr (by rw [hFJ48 _ (fun h => by rcases h with h | h <;> omega)]) (fun q h1 h2 => hFJ48 _ (fun h => by rcases h with h | h <;> omega))
        have WJ48 : sp_TR b J48 bg e a := WI.fr (hFJ48 _ (fun h => by rcases h with h | h <;> omega))
        show ly_V κ b sz J48 51 [(0, .ref (b + 77)), (1, .ref (b + (82 + 4 * i))), (2, .int (dz_i p)), (3, .int (dz_i (g p))), (4, .null)] []
        refine dz_iconst x.1 d_Translator_putLettersAt_51 ?_
        exact ly_iret x d_Translator_putLettersAt_52 rfl ⟨by rw [hst], FJ48, AJ48, by rw [hst]; show sp_O b i J48 (O ++ (sp_sgn g a p ++ [(sp_cell (g p), p)])); rw [e1]; simpa using OJ48⟩
      · have hst : sp_step g c S bg e a p = (sp_sgn g a p ++ sp_cl (S j) p (sp_cn (S j)).toNat, sp_ln (S j)) := by unfold sp_step; rw [hb]
        have hj24 : j < 24 := by have := RI.2.1; omega
        have hwj := (RI.2.2 j hj).2.2.2.1
        have hwl := (RI.2.2 j hj).2.2.1
        show ly_V κ b sz I 35 [(0, .ref (b + 77)), (1, .ref (b + (82 + 4 * i))), (2, .int (dz_i p)), (3, .int (dz_i (g p)))] [.ref (b + (5 + 3 * j))]
        refine dz_astore (ls' := [(0, .ref (b + 77)), (1, .ref (b + (82 + 4 * i))), (2, .int (dz_i p)), (3, .int (dz_i (g p))), (4, .ref (b + (5 + 3 * j)))]) x.1 d_Translator_putLettersAt_35 hN (by decide) rfl ?_
        refine dz_aload x.1 4 d_Translator_putLettersAt_37 rfl ?_
        refine dz_ifnonnull (tgt := 53) x.1 d_Translator_putLettersAt_39 (by decide) ?_
        refine dz_iconst x.1 d_Translator_putLettersAt_53 ?_
        refine dz_istore (ls' := [(0, .ref (b + 77)), (1, .ref (b + (82 + 4 * i))), (2, .int (dz_i p)), (3, .int (dz_i (g p))), (4, .ref (b + (5 + 3 * j))), (5, .int (dz_i 0))]) x.1 d_Translator_putLettersAt_54 hN (by decide) rfl ?_
        have loop : ∀ (k : Nat) (q : Nat) (J : dz_Hp), ((q : Int) + (k : Int) = sp_cn (S j)) → (sp_fr I J (fun q => q = b + (82 + 4 * i) ∨ q = b + (83 + 4 * i))) → (∀ k : Int, k ≠ 2 → J (b + (82 + 4 * i)) k = I (b + (82 + 4 * i)) k) → (sp_T b J n g) → (sp_RC b J c S) → (sp_TR b J bg e a) → (sp_O b i J (O ++ sp_cl (S j) p q)) → ly_V κ b sz J 56 [(0, .ref (b + 77)), (1, .ref (b + (82 + 4 * i))), (2, .int (dz_i p)), (3, .int (dz_i (g p))), (4, .ref (b + (5 + 3 * j))), (5, .int (dz_i (q : Int)))] [] := by
          intro k
          induction k with
          | zero =>
            intro q J hq FJ AJ TJ RJ WJ OJ
            refine dz_iload x.1 5 d_Translator_putLettersAt_56 rfl ?_
            refine dz_aload x.1 4 d_Translator_putLettersAt_58 rfl ?_
            refine dz_geti (z := (sp_cn (S j))) x.1 (ly_Rule b hj24) fl_Translator_84 d_Translator_putLettersAt_60 (RJ.2.2 j hj).1.2.2.1 ?_
            refine dz_icmp_ge (tgt := 85) x.1 d_Translator_putLettersAt_63 (by decide) (by omega) (by omega) (fun hc63 => ?_) (fun hc63 => by exfalso; omega)
            refine dz_aload x.1 4 d_Translator_putLettersAt_85 rfl ?_
            refine dz_geti (z := (sp_ln (S j))) x.1 (ly_Rule b hj24) fl_Translator_93 d_Translator_putLettersAt_87 (RJ.2.2 j hj).1.2.1 ?_
            exact ly_iret x d_Translator_putLettersAt_90 rfl ⟨by rw [hst], FJ, AJ, by rw [hst]; show sp_O b i J (O ++ (sp_sgn g a p ++ _)); rw [e1, show (sp_cn (S j)).toNat = q by omega]; simpa using OJ⟩
          | succ k ih =>
            intro q J hq FJ AJ TJ RJ WJ OJ
            refine dz_iload x.1 5 d_Translator_putLettersAt_56 rfl ?_
            refine dz_aload x.1 4 d_Translator_putLettersAt_58 rfl ?_
            refine dz_geti (z := (sp_cn (S j))) x.1 (ly_Rule b hj24) fl_Translator_84 d_Translator_putLettersAt_60 (RJ.2.2 j hj).1.2.2.1 ?_
            refine dz_icmp_ge (tgt := 85) x.1 d_Translator_putLettersAt_63 (by decide) (by omega) (by omega) (fun hc63 => by exfalso; omega) (fun hc63 => ?_)
            refine dz_aload_n x.1 1 d_Translator_putLettersAt_66 rfl rfl ?_
            refine dz_aload x.1 4 d_Translator_putLettersAt_67 rfl ?_
            refine dz_getr x.1 (ly_Rule b hj24) fl_Translator_89 (lr_Rule_3 b hj24) d_Translator_putLettersAt_69 ?_
            refine dz_iload x.1 5 d_Translator_putLettersAt_72 rfl ?_
            refine dz_iald (w := (sp_ce (S j) (q : Int))) x.1 (ly_RCells b hj24) (by decide) (by omega) d_Translator_putLettersAt_74 ((RJ.2.2 j hj).1.2.2.2.2 q (by omega) (by omega)) ?_
            refine dz_iload_n x.1 2 d_Translator_putLettersAt_75 rfl rfl ?_
            refine ly_callV (rest := []) x cl_Translator_50 (c_put l D Dt b sz J i hi (O ++ sp_cl (S j) p q) OJ (by rw [hst] at hlen; simp only [List.length_append, List.length_cons, List.length_nil, sp_cl_len] at hlen ⊢; omega) (sp_ce (S j) (q : Int)) p) (by decide) (ly_Block b hi) rfl rfl rfl rfl (Nat.le_of_ble_eq_true rfl) d_Translator_putLettersAt_76 (fun v J76 hp76 => ?_)
            obtain ⟨rfl, hFJ76, hAJ76, OJ76⟩ := hp76
            have FJ76 : sp_fr I J76 (fun q => q = b + (82 + 4 * i) ∨ q = b + (83 + 4 * i)) := FJ.tr hFJ76 (fun q h => h)
            have AJ76 : ∀ k : Int, k ≠ 2 → J76 (b + (82 + 4 * i)) k = I (b + (82 + 4 * i)) k := fun k hk => (hAJ76 k hk).trans (AJ k hk)
            have TJ76 : sp_T b J76 n g := TJ.fr (hFJ76 _ (fun h => by rcases h with h | h <;> omega)) (hFJ76 _ (fun h => by rcases h with h | h <;> omega))
            have RJ76 : sp_RC b J76 c S := RJ.fr (by rw [hFJ76 _ (fun h => by rcases h with h | h <;> omega)]) (fun q h1 h2 => hFJ76 _ (fun h => by rcases h with h | h <;> omega))
            have WJ76 : sp_TR b J76 bg e a := WJ.fr (hFJ76 _ (fun h => by rcases h with h | h <;> omega))
            show ly_V κ b sz J76 79 [(0, .ref (b + 77)), (1, .ref (b + (82 + 4 * i))), (2, .int (dz_i p)), (3, .int (dz_i (g p))), (4, .ref (b + (5 + 3 * j))), (5, .int (dz_i (q : Int)))] []
            refine dz_iinc (z := (q : Int) + 1) (ls' := [(0, .ref (b + 77)), (1, .ref (b + (82 + 4 * i))), (2, .int (dz_i p)), (3, .int (dz_i (g p))), (4, .ref (b + (5 + 3 * j))), (5, .int (dz_i ((q : Int) + 1)))]) x.1 5 d_Translator_putLettersAt_79 rfl hN (by decide) (by omega) rfl ?_
            refine dz_goto (tgt := 56) x.1 d_Translator_putLettersAt_82 (by decide) ?_
            have OK : sp_O b i J76 (O ++ sp_cl (S j) p (q + 1)) := by have h := OJ76; rw [List.append_assoc] at h; exact h
            exact ih (q + 1) J76 (by omega) FJ76 AJ76 TJ76 RJ76 WJ76 OK
        exact loop (sp_cn (S j)).toNat 0 I (by omega) FI AI TI RI WI (by simpa [sp_cl] using OI)
    · have hc20 : 65 ≤ (g p) ∧ (g p) ≤ 90 := dz_bt hc20
      refine dz_aload_n x.1 1 d_Translator_putLettersAt_23 rfl rfl ?_
      refine dz_bipush x.1 d_Translator_putLettersAt_24 (by decide) ?_
      refine dz_iload_n x.1 2 d_Translator_putLettersAt_26 rfl rfl ?_
      refine ly_callV (rest := []) x cl_Translator_50 (c_put l D Dt b sz I i hi (O) OI (by have l1 : (sp_sgn g a p).length = 1 := (by unfold sp_sgn; rw [if_pos ⟨hc13, hc20⟩]; rfl); omega) 32 p) (by decide) (ly_Block b hi) rfl rfl rfl rfl (Nat.le_of_ble_eq_true rfl) d_Translator_putLettersAt_27 (fun v J27 hp27 => ?_)
      obtain ⟨rfl, hFJ27, hAJ27, OJ27⟩ := hp27
      have FJ27 : sp_fr I J27 (fun q => q = b + (82 + 4 * i) ∨ q = b + (83 + 4 * i)) := FI.tr hFJ27 (fun q h => h)
      have AJ27 : ∀ k : Int, k ≠ 2 → J27 (b + (82 + 4 * i)) k = I (b + (82 + 4 * i)) k := fun k hk => (hAJ27 k hk).trans (AI k hk)
      have TJ27 : sp_T b J27 n g := TI.fr (hFJ27 _ (fun h => by rcases h with h | h <;> omega)) (hFJ27 _ (fun h => by rcases h with h | h <;> omega))
      have RJ27 : sp_RC b J27 c S := RI.fr (by rw [hFJ27 _ (fun h => by rcases h with h | h <;> omega)]) (fun q h1 h2 => hFJ27 _ (fun h => by rcases h with h | h <;> omega))
      have WJ27 : sp_TR b J27 bg e a := WI.fr (hFJ27 _ (fun h => by rcases h with h | h <;> omega))
      show ly_V κ b sz J27 30 [(0, .ref (b + 77)), (1, .ref (b + (82 + 4 * i))), (2, .int (dz_i p)), (3, .int (dz_i (g p)))] []
      have e1 : sp_sgn g a p = [(32, p)] := by
        unfold sp_sgn
        rw [if_pos ⟨hc13, hc20⟩]
      have l1 : (sp_sgn g a p).length = 1 := by rw [e1]; rfl
      refine dz_aload_n x.1 0 d_Translator_putLettersAt_30 rfl rfl ?_
      refine dz_iload_n x.1 2 d_Translator_putLettersAt_31 rfl rfl ?_
      refine ly_callV (rest := []) x cl_Translator_80 (c_Translator_ruleAt l D Dt b sz J27 n g TJ27 c S RJ27 bg e a WJ27 he p (by omega)) (by decide) (ly_Translator b) rfl rfl rfl rfl (Nat.le_of_ble_eq_true rfl) d_Translator_putLettersAt_32 (fun v I' hp9 => ?_)
      obtain ⟨hp9, hpI⟩ := hp9
      have hpI := hpI.symm
      subst hpI
      rcases hp9 with ⟨rfl, hb⟩ | ⟨j, hj, rfl, hb⟩
      · have hst : sp_step g c S bg e a p = (sp_sgn g a p ++ [(sp_cell (g p), p)], 1) := by unfold sp_step; rw [hb]
        show ly_V κ b sz J27 35 [(0, .ref (b + 77)), (1, .ref (b + (82 + 4 * i))), (2, .int (dz_i p)), (3, .int (dz_i (g p)))] [.null]
        refine dz_astoreN (ls' := [(0, .ref (b + 77)), (1, .ref (b + (82 + 4 * i))), (2, .int (dz_i p)), (3, .int (dz_i (g p))), (4, .null)]) x.1 d_Translator_putLettersAt_35 hN (by decide) rfl ?_
        refine dz_aloadN x.1 4 d_Translator_putLettersAt_37 rfl ?_
        refine dz_ifnonnullN x.1 d_Translator_putLettersAt_39 ?_
        refine dz_aload_n x.1 1 d_Translator_putLettersAt_42 rfl rfl ?_
        refine dz_iload_n x.1 3 d_Translator_putLettersAt_43 rfl rfl ?_
        refine ly_callS (rest := [.ref (b + (82 + 4 * i))]) x cl_Translator_56 (c_Code_cellOf l D Dt b sz J27 (g p) (by omega)) (by decide) rfl rfl (Nat.le_of_ble_eq_true rfl) d_Translator_putLettersAt_44 (fun v I' hp44 => ?_)
        obtain ⟨rfl, hp44I⟩ := hp44
        have hp44I := hp44I.symm
        subst hp44I
        show ly_V κ b sz J27 47 [(0, .ref (b + 77)), (1, .ref (b + (82 + 4 * i))), (2, .int (dz_i p)), (3, .int (dz_i (g p))), (4, .null)] [.int (dz_i (sp_cell (g p))), .ref (b + (82 + 4 * i))]
        refine dz_iload_n x.1 2 d_Translator_putLettersAt_47 rfl rfl ?_
        refine ly_callV (rest := []) x cl_Translator_50 (c_put l D Dt b sz J27 i hi (O ++ [(32, p)]) OJ27 (by rw [hst] at hlen; simp only [List.length_append, List.length_cons, List.length_nil] at hlen ⊢; omega) (sp_cell (g p)) p) (by decide) (ly_Block b hi) rfl rfl rfl rfl (Nat.le_of_ble_eq_true rfl) d_Translator_putLettersAt_48 (fun v J48 hp48 => ?_)
        obtain ⟨rfl, hFJ48, hAJ48, OJ48⟩ := hp48
        have FJ48 : sp_fr I J48 (fun q => q = b + (82 + 4 * i) ∨ q = b + (83 + 4 * i)) := FJ27.tr hFJ48 (fun q h => h)
        have AJ48 : ∀ k : Int, k ≠ 2 → J48 (b + (82 + 4 * i)) k = I (b + (82 + 4 * i)) k := fun k hk => (hAJ48 k hk).trans (AJ27 k hk)
        have TJ48 : sp_T b J48 n g := TJ27.fr (hFJ48 _ (fun h => by rcases h with h | h <;> omega)) (hFJ48 _ (fun h => by rcases h with h | h <;> omega))
        have RJ48 : sp_RC b J48 c S := RJ27.fr (by rw [hFJ48 _ (fun h => by rcases h with h | h <;> omega)]) (fun q h1 h2 => hFJ48 _ (fun h => by rcases h with h | h <;> omega))
        have WJ48 : sp_TR b J48 bg e a := WJ27.fr (hFJ48 _ (fun h => by rcases h with h | h <;> omega))
        show ly_V κ b sz J48 51 [(0, .ref (b + 77)), (1, .ref (b + (82 + 4 * i))), (2, .int (dz_i p)), (3, .int (dz_i (g p))), (4, .null)] []
        refine dz_iconst x.1 d_Translator_putLettersAt_51 ?_
        exact ly_iret x d_Translator_putLettersAt_52 rfl ⟨by rw [hst], FJ48, AJ48, by rw [hst]; show sp_O b i J48 (O ++ (sp_sgn g a p ++ [(sp_cell (g p), p)])); rw [e1]; simpa using OJ48⟩
      · have hst : sp_step g c S bg e a p = (sp_sgn g a p ++ sp_cl (S j) p (sp_cn (S j)).toNat, sp_ln (S j)) := by unfold sp_step; rw [hb]
        have hj24 : j < 24 := by have := RJ27.2.1; omega
        have hwj := (RJ27.2.2 j hj).2.2.2.1
        have hwl := (RJ27.2.2 j hj).2.2.1
        show ly_V κ b sz J27 35 [(0, .ref (b + 77)), (1, .ref (b + (82 + 4 * i))), (2, .int (dz_i p)), (3, .int (dz_i (g p)))] [.ref (b + (5 + 3 * j))]
        refine dz_astore (ls' := [(0, .ref (b + 77)), (1, .ref (b + (82 + 4 * i))), (2, .int (dz_i p)), (3, .int (dz_i (g p))), (4, .ref (b + (5 + 3 * j)))]) x.1 d_Translator_putLettersAt_35 hN (by decide) rfl ?_
        refine dz_aload x.1 4 d_Translator_putLettersAt_37 rfl ?_
        refine dz_ifnonnull (tgt := 53) x.1 d_Translator_putLettersAt_39 (by decide) ?_
        refine dz_iconst x.1 d_Translator_putLettersAt_53 ?_
        refine dz_istore (ls' := [(0, .ref (b + 77)), (1, .ref (b + (82 + 4 * i))), (2, .int (dz_i p)), (3, .int (dz_i (g p))), (4, .ref (b + (5 + 3 * j))), (5, .int (dz_i 0))]) x.1 d_Translator_putLettersAt_54 hN (by decide) rfl ?_
        have loop : ∀ (k : Nat) (q : Nat) (J : dz_Hp), ((q : Int) + (k : Int) = sp_cn (S j)) → (sp_fr I J (fun q => q = b + (82 + 4 * i) ∨ q = b + (83 + 4 * i))) → (∀ k : Int, k ≠ 2 → J (b + (82 + 4 * i)) k = I (b + (82 + 4 * i)) k) → (sp_T b J n g) → (sp_RC b J c S) → (sp_TR b J bg e a) → (sp_O b i J (O ++ [(32, p)] ++ sp_cl (S j) p q)) → ly_V κ b sz J 56 [(0, .ref (b + 77)), (1, .ref (b + (82 + 4 * i))), (2, .int (dz_i p)), (3, .int (dz_i (g p))), (4, .ref (b + (5 + 3 * j))), (5, .int (dz_i (q : Int)))] [] := by
          intro k
          induction k with
          | zero =>
            intro q J hq FJ AJ TJ RJ WJ OJ
            refine dz_iload x.1 5 d_Translator_putLettersAt_56 rfl ?_
            refine dz_aload x.1 4 d_Translator_putLettersAt_58 rfl ?_
            refine dz_geti (z := (sp_cn (S j))) x.1 (ly_Rule b hj24) fl_Translator_84 d_Translator_putLettersAt_60 (RJ.2.2 j hj).1.2.2.1 ?_
            refine dz_icmp_ge (tgt := 85) x.1 d_Translator_putLettersAt_63 (by decide) (by omega) (by omega) (fun hc63 => ?_) (fun hc63 => by exfalso; omega)
            refine dz_aload x.1 4 d_Translator_putLettersAt_85 rfl ?_
            refine dz_geti (z := (sp_ln (S j))) x.1 (ly_Rule b hj24) fl_Translator_93 d_Translator_putLettersAt_87 (RJ.2.2 j hj).1.2.1 ?_
            exact ly_iret x d_Translator_putLettersAt_90 rfl ⟨by rw [hst], FJ, AJ, by rw [hst]; show sp_O b i J (O ++ (sp_sgn g a p ++ _)); rw [e1, show (sp_cn (S j)).toNat = q by omega]; simpa using OJ⟩
          | succ k ih =>
            intro q J hq FJ AJ TJ RJ WJ OJ
            refine dz_iload x.1 5 d_Translator_putLettersAt_56 rfl ?_
            refine dz_aload x.1 4 d_Translator_putLettersAt_58 rfl ?_
            refine dz_geti (z := (sp_cn (S j))) x.1 (ly_Rule b hj24) fl_Translator_84 d_Translator_putLettersAt_60 (RJ.2.2 j hj).1.2.2.1 ?_
            refine dz_icmp_ge (tgt := 85) x.1 d_Translator_putLettersAt_63 (by decide) (by omega) (by omega) (fun hc63 => by exfalso; omega) (fun hc63 => ?_)
            refine dz_aload_n x.1 1 d_Translator_putLettersAt_66 rfl rfl ?_
            refine dz_aload x.1 4 d_Translator_putLettersAt_67 rfl ?_
            refine dz_getr x.1 (ly_Rule b hj24) fl_Translator_89 (lr_Rule_3 b hj24) d_Translator_putLettersAt_69 ?_
            refine dz_iload x.1 5 d_Translator_putLettersAt_72 rfl ?_
            refine dz_iald (w := (sp_ce (S j) (q : Int))) x.1 (ly_RCells b hj24) (by decide) (by omega) d_Translator_putLettersAt_74 ((RJ.2.2 j hj).1.2.2.2.2 q (by omega) (by omega)) ?_
            refine dz_iload_n x.1 2 d_Translator_putLettersAt_75 rfl rfl ?_
            refine ly_callV (rest := []) x cl_Translator_50 (c_put l D Dt b sz J i hi (O ++ [(32, p)] ++ sp_cl (S j) p q) OJ (by rw [hst] at hlen; simp only [List.length_append, List.length_cons, List.length_nil, sp_cl_len] at hlen ⊢; omega) (sp_ce (S j) (q : Int)) p) (by decide) (ly_Block b hi) rfl rfl rfl rfl (Nat.le_of_ble_eq_true rfl) d_Translator_putLettersAt_76 (fun v J76 hp76 => ?_)
            obtain ⟨rfl, hFJ76, hAJ76, OJ76⟩ := hp76
            have FJ76 : sp_fr I J76 (fun q => q = b + (82 + 4 * i) ∨ q = b + (83 + 4 * i)) := FJ.tr hFJ76 (fun q h => h)
            have AJ76 : ∀ k : Int, k ≠ 2 → J76 (b + (82 + 4 * i)) k = I (b + (82 + 4 * i)) k := fun k hk => (hAJ76 k hk).trans (AJ k hk)
            have TJ76 : sp_T b J76 n g := TJ.fr (hFJ76 _ (fun h => by rcases h with h | h <;> omega)) (hFJ76 _ (fun h => by rcases h with h | h <;> omega))
            have RJ76 : sp_RC b J76 c S := RJ.fr (by rw [hFJ76 _ (fun h => by rcases h with h | h <;> omega)]) (fun q h1 h2 => hFJ76 _ (fun h => by rcases h with h | h <;> omega))
            have WJ76 : sp_TR b J76 bg e a := WJ.fr (hFJ76 _ (fun h => by rcases h with h | h <;> omega))
            show ly_V κ b sz J76 79 [(0, .ref (b + 77)), (1, .ref (b + (82 + 4 * i))), (2, .int (dz_i p)), (3, .int (dz_i (g p))), (4, .ref (b + (5 + 3 * j))), (5, .int (dz_i (q : Int)))] []
            refine dz_iinc (z := (q : Int) + 1) (ls' := [(0, .ref (b + 77)), (1, .ref (b + (82 + 4 * i))), (2, .int (dz_i p)), (3, .int (dz_i (g p))), (4, .ref (b + (5 + 3 * j))), (5, .int (dz_i ((q : Int) + 1)))]) x.1 5 d_Translator_putLettersAt_79 rfl hN (by decide) (by omega) rfl ?_
            refine dz_goto (tgt := 56) x.1 d_Translator_putLettersAt_82 (by decide) ?_
            have OK : sp_O b i J76 (O ++ [(32, p)] ++ sp_cl (S j) p (q + 1)) := by have h := OJ76; rw [List.append_assoc] at h; exact h
            exact ih (q + 1) J76 (by omega) FJ76 AJ76 TJ76 RJ76 WJ76 OK
        exact loop (sp_cn (S j)).toNat 0 J27 (by omega) FJ27 AJ27 TJ27 RJ27 WJ27 (by simpa [sp_cl] using OJ27)
