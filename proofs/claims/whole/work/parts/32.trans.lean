/-- the cells that a block has taken: cell and origin -/
def sp_O (b i : Nat) (J : dz_Hp) (O : List (Int × Int)) : Prop := J (b + (82 + 4 * i)) 2 = (O.length : Int) ∧ O.length ≤ 200 ∧ ∀ (j : Nat) (e : Int × Int), O[j]? = some e → J (b + (83 + 4 * i)) (j : Int) = e.1 + 64 * e.2
theorem sp_O.fr {b i : Nat} {I J : dz_Hp} {O : List (Int × Int)} (H : sp_O b i I O) (h1 : J (b + (82 + 4 * i)) 2 = I (b + (82 + 4 * i)) 2) (h2 : J (b + (83 + 4 * i)) = I (b + (83 + 4 * i))) : sp_O b i J O := by
  unfold sp_O; rw [h1, h2]; exact H
theorem c_put (l : Launch) (D : va_G) (Dt : Nat → ClassId) (b sz : Nat) (I : dz_Hp) (i : Nat) (hi : i < 12) (O : List (Int × Int)) (H : sp_O b i I O) (hl : O.length < 200) (p q : Int) : ly_M l D Dt b sz y_Block_put b_Block_put 3 none 1 [.ref (b + (82 + 4 * i)), .int (dz_i p), .int (dz_i q)] I (fun v I' => v = none ∧ sp_fr I I' (fun q => q = b + (82 + 4 * i) ∨ q = b + (83 + 4 * i)) ∧ (∀ k : Int, k ≠ 2 → I' (b + (82 + 4 * i)) k = I (b + (82 + 4 * i)) k) ∧ sp_O b i I' (O ++ [(p, q)])) := by
  have h := c_Block_put l D Dt b sz I i hi (O.length : Int) H.1 (by omega) (by omega) p q
  refine ly_weak h (fun v I' h => ?_)
  obtain ⟨h1, rfl⟩ := h
  refine ⟨h1, (sp_fr.rf.up (Or.inr rfl)).up (Or.inl rfl), fun k hk => by rw [dz_up_k _ _ _ hk, dz_up_n _ _ _ (by omega)], ?_⟩
  refine ⟨by rw [dz_up_s]; simp, by simp; omega, fun j e he => ?_⟩
  rw [dz_up_n _ _ _ (by omega)]
  by_cases c : j < O.length
  · rw [List.getElem?_append_left c] at he
    rw [dz_up_k _ _ _ (by omega)]
    exact H.2.2 j e he
  · rw [List.getElem?_append_right (by omega)] at he
    have hj : j - O.length = 0 := by
      by_cases c2 : j - O.length = 0
      · exact c2
      · rw [List.getElem?_eq_none (by simp; omega)] at he; cases he
    rw [hj] at he
    simp at he
    rw [← he, show (j : Int) = (O.length : Int) by omega, dz_up_s]
/-- the word that the translator is at -/
def sp_TR (b : Nat) (J : dz_Hp) (bg e : Int) (a : Bool) : Prop := J (b + 77) 2 = bg ∧ J (b + 77) 3 = e ∧ J (b + 77) 4 = if a = true then 1 else 0
theorem sp_TR.fr {b : Nat} {I J : dz_Hp} {bg e : Int} {a : Bool} (H : sp_TR b I bg e a) (h : J (b + 77) = I (b + 77)) : sp_TR b J bg e a := by unfold sp_TR; rw [h]; exact H
def sp_best (mt : Nat → Bool) (bt : Nat → Nat → Bool) : Nat → Option Nat
  | 0 => none
  | r + 1 => match sp_best mt bt r with
    | none => if mt r = true then some r else none
    | some s => if mt r = true ∧ bt r s = true then some r else some s
theorem sp_best_n {mt : Nat → Bool} {bt : Nat → Nat → Bool} {i : Nat} (h : ¬ mt i = true) : sp_best mt bt (i + 1) = sp_best mt bt i := by
  simp only [sp_best]
  split
  · rename_i e; rw [if_neg h, e]
  · rename_i e; rw [if_neg (fun z => h z.1), e]
theorem sp_best_0 {mt : Nat → Bool} {bt : Nat → Nat → Bool} {i : Nat} (h0 : sp_best mt bt i = none) (h : mt i = true) : sp_best mt bt (i + 1) = some i := by
  simp only [sp_best]; rw [h0]; exact if_pos h
theorem sp_best_t {mt : Nat → Bool} {bt : Nat → Nat → Bool} {i j : Nat} (h0 : sp_best mt bt i = some j) (h : mt i = true) (h2 : bt i j = true) : sp_best mt bt (i + 1) = some i := by
  simp only [sp_best]; rw [h0]; exact if_pos ⟨h, h2⟩
theorem sp_best_f {mt : Nat → Bool} {bt : Nat → Nat → Bool} {i j : Nat} (h0 : sp_best mt bt i = some j) (h2 : ¬ bt i j = true) : sp_best mt bt (i + 1) = some j := by
  simp only [sp_best]; rw [h0]; exact if_neg (fun z => h2 z.2)
theorem sp_best_lt {mt : Nat → Bool} {bt : Nat → Nat → Bool} : ∀ (n j : Nat), sp_best mt bt n = some j → j < n ∧ mt j = true := by
  intro n
  induction n with
  | zero => intro j h; cases h
  | succ n ih =>
    intro j h
    simp only [sp_best] at h
    split at h
    · split at h
      · cases h; rename_i h9; exact ⟨by omega, h9⟩
      · cases h
    · rename_i s e
      split at h
      · cases h; rename_i h9; exact ⟨by omega, h9.1⟩
      · cases h; have := ih _ e; exact ⟨by omega, this.2⟩
/-- whether rule r stands at p of the word bg .. e - 1 -/
def sp_mt (g : Int → Int) (S : Nat → sp_Ru) (bg e : Int) (a : Bool) (p : Int) (r : Nat) : Bool := sp_all (sp_hl g p a (S r)) (sp_ln (S r)).toNat && sp_app (sp_k (S r)) (decide (p = bg)) (decide (p + sp_ln (S r) = e))
def sp_btr (S : Nat → sp_Ru) (r s : Nat) : Bool := decide (sp_ln (S s) < sp_ln (S r) ∨ (sp_ln (S r) = sp_ln (S s) ∧ sp_k (S r) < sp_k (S s)))
def sp_isL (g : Int → Int) : Int → Bool := fun j => decide ((97 ≤ g j ∧ g j ≤ 122) ∨ (65 ≤ g j ∧ g j ≤ 90))
def sp_isC (g : Int → Int) (bg : Int) : Int → Bool := fun j => decide (65 ≤ g (bg + j) ∧ g (bg + j) ≤ 90)
def sp_we (g : Int → Int) (bg : Int) : Int := sp_run (sp_isL g) bg 100
def sp_wc (g : Int → Int) (bg e : Int) : Bool := sp_all (sp_isC g bg) (e - bg).toNat && decide (2 ≤ e - bg)
def sp_cl (u : sp_Ru) (p : Int) : Nat → List (Int × Int)
  | 0 => []
  | k + 1 => sp_cl u p k ++ [(sp_ce u k, p)]
theorem sp_cl_len (u : sp_Ru) (p : Int) (k : Nat) : (sp_cl u p k).length = k := by
  induction k with
  | zero => rfl
  | succ k ih => simp [sp_cl, ih]
def sp_sgn (g : Int → Int) (a : Bool) (p : Int) : List (Int × Int) := if ¬ a = true ∧ (65 ≤ g p ∧ g p ≤ 90) then [(32, p)] else []
def sp_step (g : Int → Int) (c : Nat) (S : Nat → sp_Ru) (bg e : Int) (a : Bool) (p : Int) : List (Int × Int) × Int :=
  match sp_best (sp_mt g S bg e a p) (sp_btr S) c with
  | none => (sp_sgn g a p ++ [(sp_cell (g p), p)], 1)
  | some r => (sp_sgn g a p ++ sp_cl (S r) p (sp_cn (S r)).toNat, sp_ln (S r))
def sp_wl (F : Int → List (Int × Int) × Int) (e : Int) : Nat → Int → List (Int × Int)
  | 0, _ => []
  | k + 1, p => if p < e then (F p).1 ++ sp_wl F e k (p + (F p).2) else []
def sp_wp (a : Bool) (bg : Int) : List (Int × Int) := if a = true then [(32, bg), (32, bg)] else []
def sp_wd (g : Int → Int) (c : Nat) (S : Nat → sp_Ru) (bg : Int) : List (Int × Int) := sp_wp (sp_wc g bg (sp_we g bg)) bg ++ sp_wl (sp_step g c S bg (sp_we g bg) (sp_wc g bg (sp_we g bg))) (sp_we g bg) 100 bg
def sp_s1 (g : Int → Int) (p : Int) : List (Int × Int) := if (48 ≤ g p ∧ g p ≤ 57) ∧ ¬ (48 ≤ g (p - 1) ∧ g (p - 1) ≤ 57) then [(60, p)] else []
def sp_s3 (g : Int → Int) (p : Int) : List (Int × Int) := if (48 ≤ g p ∧ g p ≤ 57) ∧ (97 ≤ g (p + 1) ∧ g (p + 1) ≤ 106) then [(48, p + 1)] else []
def sp_tr (g : Int → Int) (c : Nat) (S : Nat → sp_Ru) : Nat → Int → List (Int × Int)
  | 0, _ => []
  | k + 1, i => (if sp_isL g i = true then (if sp_isL g (i - 1) = true then [] else sp_wd g c S i) else sp_s1 g i ++ (sp_cell (g i), i) :: sp_s3 g i) ++ sp_tr g c S k (i + 1)
set_option maxRecDepth 100000 in
set_option maxHeartbeats 4000000 in
theorem c_Translator_isBetter (l : Launch) (D : va_G) (Dt : Nat → ClassId) (b sz : Nat) (I : dz_Hp) (r : Nat) (hr : r < 24) (u : sp_Ru) (hu : sp_rl b r I u) (hw : sp_rwf u) (s : Nat) (hs : s < 24) (w : sp_Ru) (hv : sp_rl b s I w) (hww : sp_rwf w) : ly_M l D Dt b sz y_Translator_isBetter b_Translator_isBetter 2 (some .boolean) 1 [.ref (b + (5 + 3 * r)), .ref (b + (5 + 3 * s))] I (fun v I' => v = some (.int (dz_i (if sp_ln w < sp_ln u ∨ (sp_ln u = sp_ln w ∧ sp_k u < sp_k w) then 1 else 0))) ∧ I' = I) := by
  refine ly_enter R_Translator (by decide) rfl (Nat.le_of_ble_eq_true rfl) (ly_cat _ 0 rfl) (fun κ x => ?_)
  have hN := ly_N x
  have hw0 := hw.1
  have hw1 := hw.2.1
  have hw2 := hw.2.2.1
  have hv0 := hww.1
  have hv1 := hww.2.1
  have hv2 := hww.2.2.1
  show ly_V κ b sz I 0 [(0, .ref (b + (5 + 3 * r))), (1, .ref (b + (5 + 3 * s)))] []
  refine dz_aload_n x.1 0 d_Translator_isBetter_0 rfl rfl ?_
  refine dz_geti (z := (sp_ln u)) x.1 (ly_Rule b hr) fl_Translator_93 d_Translator_isBetter_1 hu.2.1 ?_
  refine dz_aload_n x.1 1 d_Translator_isBetter_4 rfl rfl ?_
  refine dz_geti (z := (sp_ln w)) x.1 (ly_Rule b hs) fl_Translator_93 d_Translator_isBetter_5 hv.2.1 ?_
  refine dz_icmp_gt (tgt := 33) x.1 d_Translator_isBetter_8 (by decide) (by omega) (by omega) (fun hc8 => ?_) (fun hc8 => ?_)
  · refine dz_iconst x.1 d_Translator_isBetter_33 ?_
    refine dz_goto (tgt := 38) x.1 d_Translator_isBetter_34 (by decide) ?_
    exact ly_iret x d_Translator_isBetter_38 (dz_nbo (by omega)) ⟨by first | (exfalso; omega) | rw [if_pos (by omega)] | rw [if_neg (by omega)], rfl⟩
  · refine dz_aload_n x.1 0 d_Translator_isBetter_11 rfl rfl ?_
    refine dz_geti (z := (sp_ln u)) x.1 (ly_Rule b hr) fl_Translator_93 d_Translator_isBetter_12 hu.2.1 ?_
    refine dz_aload_n x.1 1 d_Translator_isBetter_15 rfl rfl ?_
    refine dz_geti (z := (sp_ln w)) x.1 (ly_Rule b hs) fl_Translator_93 d_Translator_isBetter_16 hv.2.1 ?_
    refine dz_icmp_ne (tgt := 37) x.1 d_Translator_isBetter_19 (by decide) (by omega) (by omega) (fun hc19 => ?_) (fun hc19 => ?_)
    · refine dz_iconst x.1 d_Translator_isBetter_37 ?_
      exact ly_iret x d_Translator_isBetter_38 (dz_nbo (by omega)) ⟨by first | (exfalso; omega) | rw [if_pos (by omega)] | rw [if_neg (by omega)], rfl⟩
    · refine dz_aload_n x.1 0 d_Translator_isBetter_22 rfl rfl ?_
      refine dz_geti (z := (sp_k u)) x.1 (ly_Rule b hr) fl_Translator_115 d_Translator_isBetter_23 hu.1 ?_
      refine dz_aload_n x.1 1 d_Translator_isBetter_26 rfl rfl ?_
      refine dz_geti (z := (sp_k w)) x.1 (ly_Rule b hs) fl_Translator_115 d_Translator_isBetter_27 hv.1 ?_
      refine dz_icmp_ge (tgt := 37) x.1 d_Translator_isBetter_30 (by decide) (by omega) (by omega) (fun hc30 => ?_) (fun hc30 => ?_)
      · refine dz_iconst x.1 d_Translator_isBetter_37 ?_
        exact ly_iret x d_Translator_isBetter_38 (dz_nbo (by omega)) ⟨by first | (exfalso; omega) | rw [if_pos (by omega)] | rw [if_neg (by omega)], rfl⟩
      · refine dz_iconst x.1 d_Translator_isBetter_33 ?_
        refine dz_goto (tgt := 38) x.1 d_Translator_isBetter_34 (by decide) ?_
        exact ly_iret x d_Translator_isBetter_38 (dz_nbo (by omega)) ⟨by first | (exfalso; omega) | rw [if_pos (by omega)] | rw [if_neg (by omega)], rfl⟩
set_option maxRecDepth 100000 in
set_option maxHeartbeats 4000000 in
theorem c_Translator_ruleAt (l : Launch) (D : va_G) (Dt : Nat → ClassId) (b sz : Nat) (I : dz_Hp) (n : Int) (g : Int → Int) (TI : sp_T b I n g) (c : Nat) (S : Nat → sp_Ru) (RI : sp_RC b I c S) (bg e : Int) (a : Bool) (WI : sp_TR b I bg e a) (he : 0 ≤ bg ∧ bg ≤ e ∧ e ≤ 100) (p : Int) (hp : 0 ≤ p ∧ p < 200) : ly_M l D Dt b sz y_Translator_ruleAt b_Translator_ruleAt 5 (some (.object "DotBook$Rule")) 4 [.ref (b + 77), .int (dz_i p)] I (fun v I' => ((v = some .null ∧ sp_best (sp_mt g S bg e a p) (sp_btr S) c = none) ∨ (∃ j, j < c ∧ v = some (.ref (b + (5 + 3 * j))) ∧ sp_best (sp_mt g S bg e a p) (sp_btr S) c = some j)) ∧ I' = I) := by
  refine ly_enter R_Translator (by decide) rfl (Nat.le_of_ble_eq_true rfl) (ly_cat _ 0 rfl) (fun κ x => ?_)
  have hN := ly_N x
  have hc24 := RI.2.1
  have loop : ∀ (k : Nat) (i : Nat) (v9 : Value), (i + k = c) → ((v9 = .null ∧ sp_best (sp_mt g S bg e a p) (sp_btr S) i = none) ∨ (∃ j, j < c ∧ v9 = .ref (b + (5 + 3 * j)) ∧ sp_best (sp_mt g S bg e a p) (sp_btr S) i = some j)) → ly_V κ b sz I 4 [(0, .ref (b + 77)), (1, .int (dz_i p)), (2, v9), (3, .int (dz_i (i : Int)))] [] := by
    intro k
    induction k with
    | zero =>
      intro i v9 hi hv
      rcases hv with ⟨rfl, hb⟩ | ⟨j, hj, rfl, hb⟩
      · have hj24 : True := trivial
        refine dz_iload_n x.1 3 d_Translator_ruleAt_4 rfl rfl ?_
        refine dz_aload_n x.1 0 d_Translator_ruleAt_5 rfl rfl ?_
        refine dz_getr x.1 (ly_Translator b) fl_Translator_15 (lr_Translator_1 b) d_Translator_ruleAt_6 ?_
        refine dz_geti (z := (c : Int)) x.1 (ly_RuleList b) fl_Translator_96 d_Translator_ruleAt_9 RI.1 ?_
        refine dz_icmp_ge (tgt := 105) x.1 d_Translator_ruleAt_12 (by decide) (by omega) (by omega) (fun hc12 => ?_) (fun hc12 => by exfalso; omega)
        refine dz_aload_nN x.1 2 d_Translator_ruleAt_105 rfl rfl ?_
        have hbc := hb
        rw [show i = c by omega] at hbc
        exact ly_aret x d_Translator_ruleAt_106 (Or.inl rfl) ⟨Or.inl ⟨rfl, hbc⟩, rfl⟩
      · have hj24 : True := trivial
        refine dz_iload_n x.1 3 d_Translator_ruleAt_4 rfl rfl ?_
        refine dz_aload_n x.1 0 d_Translator_ruleAt_5 rfl rfl ?_
        refine dz_getr x.1 (ly_Translator b) fl_Translator_15 (lr_Translator_1 b) d_Translator_ruleAt_6 ?_
        refine dz_geti (z := (c : Int)) x.1 (ly_RuleList b) fl_Translator_96 d_Translator_ruleAt_9 RI.1 ?_
        refine dz_icmp_ge (tgt := 105) x.1 d_Translator_ruleAt_12 (by decide) (by omega) (by omega) (fun hc12 => ?_) (fun hc12 => by exfalso; omega)
        refine dz_aload_n x.1 2 d_Translator_ruleAt_105 rfl rfl ?_
        have hbc := hb
        rw [show i = c by omega] at hbc
        exact ly_aret x d_Translator_ruleAt_106 (Or.inr ⟨_, rfl⟩) ⟨Or.inr ⟨j, hj, rfl, hbc⟩, rfl⟩
    | succ k ih =>
      intro i v9 hi hv
      have hi9 : i < 24 := by omega
      have hwr := (RI.2.2 i (by omega)).2.2.1
      rcases hv with ⟨rfl, hb⟩ | ⟨j, hj, rfl, hb⟩
      · have hj24 : True := trivial
        refine dz_iload_n x.1 3 d_Translator_ruleAt_4 rfl rfl ?_
        refine dz_aload_n x.1 0 d_Translator_ruleAt_5 rfl rfl ?_
        refine dz_getr x.1 (ly_Translator b) fl_Translator_15 (lr_Translator_1 b) d_Translator_ruleAt_6 ?_
        refine dz_geti (z := (c : Int)) x.1 (ly_RuleList b) fl_Translator_96 d_Translator_ruleAt_9 RI.1 ?_
        refine dz_icmp_ge (tgt := 105) x.1 d_Translator_ruleAt_12 (by decide) (by omega) (by omega) (fun hc12 => by exfalso; omega) (fun hc12 => ?_)
        refine dz_aload_n x.1 0 d_Translator_ruleAt_15 rfl rfl ?_
        refine dz_getr x.1 (ly_Translator b) fl_Translator_15 (lr_Translator_1 b) d_Translator_ruleAt_16 ?_
        refine dz_getr x.1 (ly_RuleList b) fl_Translator_99 (lr_RuleList_0 b) d_Translator_ruleAt_19 ?_
        refine dz_iload_n x.1 3 d_Translator_ruleAt_22 rfl rfl ?_
        refine dz_aald3 x.1 (ly_RuleArr b) (by decide) (by omega) (lr_RuleArr b hi9) d_Translator_ruleAt_23 ?_
        refine dz_astore (ls' := [(0, .ref (b + 77)), (1, .int (dz_i p)), (2, .null), (3, .int (dz_i (i : Int))), (4, .ref (b + (5 + 3 * i)))]) x.1 d_Translator_ruleAt_24 hN (by decide) rfl ?_
        refine dz_aload x.1 4 d_Translator_ruleAt_26 rfl ?_
        refine dz_aload_n x.1 0 d_Translator_ruleAt_28 rfl rfl ?_
        refine dz_getr x.1 (ly_Translator b) fl_Translator_9 (lr_Translator_0 b) d_Translator_ruleAt_29 ?_
        refine dz_iload_n x.1 1 d_Translator_ruleAt_32 rfl rfl ?_
        refine dz_aload_n x.1 0 d_Translator_ruleAt_33 rfl rfl ?_
        refine dz_geti (z := (if a = true then 1 else 0)) x.1 (ly_Translator b) fl_Translator_72 d_Translator_ruleAt_34 WI.2.2 ?_
        refine ly_callV (rest := []) x cl_Translator_103 (c_Rule_hasLettersAt l D Dt b sz I i hi9 (S i) (RI.2.2 i (by omega)).1 (RI.2.2 i (by omega)).2 n g TI p (by omega) a) (by decide) (ly_Rule b hi9) rfl rfl rfl rfl (Nat.le_of_ble_eq_true rfl) d_Translator_ruleAt_37 (fun v I' hp37 => ?_)
        obtain ⟨rfl, hp37I⟩ := hp37
        have hp37I := hp37I.symm
        subst hp37I
        show ly_V κ b sz I 40 [(0, .ref (b + 77)), (1, .int (dz_i p)), (2, .null), (3, .int (dz_i (i : Int))), (4, .ref (b + (5 + 3 * i)))] [.int (dz_i (if sp_all (sp_hl g p a (S i)) (sp_ln (S i)).toNat = true then 1 else 0))]
        refine dz_if_eq (tgt := 99) x.1 d_Translator_ruleAt_40 (by decide) (dz_br _) (fun hc40 => ?_) (fun hc40 => ?_)
        · have hc40 : ¬ (sp_all (sp_hl g p a (S i)) (sp_ln (S i)).toNat = true) := dz_bf hc40
          refine dz_iinc (z := (i : Int) + 1) (ls' := [(0, .ref (b + 77)), (1, .int (dz_i p)), (2, .null), (3, .int (dz_i ((i : Int) + 1))), (4, .ref (b + (5 + 3 * i)))]) x.1 3 d_Translator_ruleAt_99 rfl hN (by decide) (by omega) rfl ?_
          refine dz_goto (tgt := 4) x.1 d_Translator_ruleAt_102 (by decide) ?_
          refine dz_take 4 (ls' := [(0, .ref (b + 77)), (1, .int (dz_i p)), (2, .null), (3, .int (dz_i ((i : Int) + 1)))]) rfl ?_
          have hM : ¬ sp_mt g S bg e a p i = true := by
              intro h
              unfold sp_mt at h
              first
                | exact hc40 (Bool.and_eq_true_iff.mp h).1
                | (first | rw [decide_eq_true hc50] at h | rw [decide_eq_false hc50] at h) <;> (first | rw [decide_eq_true hc69] at h | rw [decide_eq_false hc69] at h) <;> exact hc80 (Bool.and_eq_true_iff.mp h).2
          exact ih (i + 1) _ (by omega) (Or.inl ⟨rfl, (sp_best_n hM).trans hb⟩)
        · have hc40 : sp_all (sp_hl g p a (S i)) (sp_ln (S i)).toNat = true := dz_bt hc40
          refine dz_aload x.1 4 d_Translator_ruleAt_43 rfl ?_
          refine dz_iload_n x.1 1 d_Translator_ruleAt_45 rfl rfl ?_
          refine dz_aload_n x.1 0 d_Translator_ruleAt_46 rfl rfl ?_
          refine dz_geti (z := bg) x.1 (ly_Translator b) fl_Translator_66 d_Translator_ruleAt_47 WI.1 ?_
          refine dz_icmp_ne (tgt := 57) x.1 d_Translator_ruleAt_50 (by decide) (by omega) (by omega) (fun hc50 => ?_) (fun hc50 => ?_)
          · refine dz_iconst x.1 d_Translator_ruleAt_57 ?_
            refine dz_iload_n x.1 1 d_Translator_ruleAt_58 rfl rfl ?_
            refine dz_aload x.1 4 d_Translator_ruleAt_59 rfl ?_
            refine dz_geti (z := (sp_ln (S i))) x.1 (ly_Rule b hi9) fl_Translator_93 d_Translator_ruleAt_61 (RI.2.2 i (by omega)).1.2.1 ?_
            refine dz_iadd (z := p + (sp_ln (S i))) x.1 d_Translator_ruleAt_64 (by omega) ?_
            refine dz_aload_n x.1 0 d_Translator_ruleAt_65 rfl rfl ?_
            refine dz_geti (z := e) x.1 (ly_Translator b) fl_Translator_69 d_Translator_ruleAt_66 WI.2.1 ?_
            refine dz_icmp_ne (tgt := 76) x.1 d_Translator_ruleAt_69 (by decide) (by omega) (by omega) (fun hc69 => ?_) (fun hc69 => ?_)
            · refine dz_iconst x.1 d_Translator_ruleAt_76 ?_
              refine ly_callV (rest := []) x cl_Translator_107 (c_Rule_applies l D Dt b sz I i hi9 (S i) (RI.2.2 i (by omega)).1 (RI.2.2 i (by omega)).2 false false) (by decide) (ly_Rule b hi9) rfl rfl rfl rfl (Nat.le_of_ble_eq_true rfl) d_Translator_ruleAt_77 (fun v I' hp77 => ?_)
              obtain ⟨rfl, hp77I⟩ := hp77
              have hp77I := hp77I.symm
              subst hp77I
              show ly_V κ b sz I 80 [(0, .ref (b + 77)), (1, .int (dz_i p)), (2, .null), (3, .int (dz_i (i : Int))), (4, .ref (b + (5 + 3 * i)))] [.int (dz_i (if sp_app (sp_k (S i)) false false = true then 1 else 0))]
              refine dz_if_eq (tgt := 99) x.1 d_Translator_ruleAt_80 (by decide) (dz_br _) (fun hc80 => ?_) (fun hc80 => ?_)
              · have hc80 : ¬ (sp_app (sp_k (S i)) false false = true) := dz_bf hc80
                refine dz_iinc (z := (i : Int) + 1) (ls' := [(0, .ref (b + 77)), (1, .int (dz_i p)), (2, .null), (3, .int (dz_i ((i : Int) + 1))), (4, .ref (b + (5 + 3 * i)))]) x.1 3 d_Translator_ruleAt_99 rfl hN (by decide) (by omega) rfl ?_
                refine dz_goto (tgt := 4) x.1 d_Translator_ruleAt_102 (by decide) ?_
                refine dz_take 4 (ls' := [(0, .ref (b + 77)), (1, .int (dz_i p)), (2, .null), (3, .int (dz_i ((i : Int) + 1)))]) rfl ?_
                have hM : ¬ sp_mt g S bg e a p i = true := by
                    intro h
                    unfold sp_mt at h
                    first
                      | exact hc40 (Bool.and_eq_true_iff.mp h).1
                      | (first | rw [decide_eq_true hc50] at h | rw [decide_eq_false hc50] at h) <;> (first | rw [decide_eq_true hc69] at h | rw [decide_eq_false hc69] at h) <;> exact hc80 (Bool.and_eq_true_iff.mp h).2
                exact ih (i + 1) _ (by omega) (Or.inl ⟨rfl, (sp_best_n hM).trans hb⟩)
              · have hc80 : sp_app (sp_k (S i)) false false = true := dz_bt hc80
                have hM : sp_mt g S bg e a p i = true := by
                  unfold sp_mt
                  rw [hc40]
                  first | rw [decide_eq_true hc50] | rw [decide_eq_false hc50]
                  first | rw [decide_eq_true hc69] | rw [decide_eq_false hc69]
                  rw [hc80]; rfl
                refine dz_aload_nN x.1 2 d_Translator_ruleAt_83 rfl rfl ?_
                refine dz_ifnullN (tgt := 96) x.1 d_Translator_ruleAt_84 (by decide) ?_
                refine dz_aload x.1 4 d_Translator_ruleAt_96 rfl ?_
                refine dz_astore_n (ls' := [(0, .ref (b + 77)), (1, .int (dz_i p)), (2, .ref (b + (5 + 3 * i))), (3, .int (dz_i (i : Int))), (4, .ref (b + (5 + 3 * i)))]) x.1 d_Translator_ruleAt_98 rfl hN (by decide) rfl ?_
                refine dz_iinc (z := (i : Int) + 1) (ls' := [(0, .ref (b + 77)), (1, .int (dz_i p)), (2, .ref (b + (5 + 3 * i))), (3, .int (dz_i ((i : Int) + 1))), (4, .ref (b + (5 + 3 * i)))]) x.1 3 d_Translator_ruleAt_99 rfl hN (by decide) (by omega) rfl ?_
                refine dz_goto (tgt := 4) x.1 d_Translator_ruleAt_102 (by decide) ?_
                refine dz_take 4 (ls' := [(0, .ref (b + 77)), (1, .int (dz_i p)), (2, .ref (b + (5 + 3 * i))), (3, .int (dz_i ((i : Int) + 1)))]) rfl ?_
                exact ih (i + 1) _ (by omega) (Or.inr ⟨i, by omega, rfl, sp_best_0 hb hM⟩)
            · refine dz_iconst x.1 d_Translator_ruleAt_72 ?_
              refine dz_goto (tgt := 77) x.1 d_Translator_ruleAt_73 (by decide) ?_
              refine ly_callV (rest := []) x cl_Translator_107 (c_Rule_applies l D Dt b sz I i hi9 (S i) (RI.2.2 i (by omega)).1 (RI.2.2 i (by omega)).2 false true) (by decide) (ly_Rule b hi9) rfl rfl rfl rfl (Nat.le_of_ble_eq_true rfl) d_Translator_ruleAt_77 (fun v I' hp77 => ?_)
              obtain ⟨rfl, hp77I⟩ := hp77
              have hp77I := hp77I.symm
              subst hp77I
              show ly_V κ b sz I 80 [(0, .ref (b + 77)), (1, .int (dz_i p)), (2, .null), (3, .int (dz_i (i : Int))), (4, .ref (b + (5 + 3 * i)))] [.int (dz_i (if sp_app (sp_k (S i)) false true = true then 1 else 0))]
              refine dz_if_eq (tgt := 99) x.1 d_Translator_ruleAt_80 (by decide) (dz_br _) (fun hc80 => ?_) (fun hc80 => ?_)
              · have hc80 : ¬ (sp_app (sp_k (S i)) false true = true) := dz_bf hc80
                refine dz_iinc (z := (i : Int) + 1) (ls' := [(0, .ref (b + 77)), (1, .int (dz_i p)), (2, .null), (3, .int (dz_i ((i : Int) + 1))), (4, .ref (b + (5 + 3 * i)))]) x.1 3 d_Translator_ruleAt_99 rfl hN (by decide) (by omega) rfl ?_
                refine dz_goto (tgt := 4) x.1 d_Translator_ruleAt_102 (by decide) ?_
                refine dz_take 4 (ls' := [(0, .ref (b + 77)), (1, .int (dz_i p)), (2, .null), (3, .int (dz_i ((i : Int) + 1)))]) rfl ?_
                have hM : ¬ sp_mt g S bg e a p i = true := by
                    intro h
                    unfold sp_mt at h
                    first
                      | exact hc40 (Bool.and_eq_true_iff.mp h).1
                      | (first | rw [decide_eq_true hc50] at h | rw [decide_eq_false hc50] at h) <;> (first | rw [decide_eq_true hc69] at h | rw [decide_eq_false hc69] at h) <;> exact hc80 (Bool.and_eq_true_iff.mp h).2
                exact ih (i + 1) _ (by omega) (Or.inl ⟨rfl, (sp_best_n hM).trans hb⟩)
              · have hc80 : sp_app (sp_k (S i)) false true = true := dz_bt hc80
                have hM : sp_mt g S bg e a p i = true := by
                  unfold sp_mt
                  rw [hc40]
                  first | rw [decide_eq_true hc50] | rw [decide_eq_false hc50]
                  first | rw [decide_eq_true hc69] | rw [decide_eq_false hc69]
                  rw [hc80]; rfl
                refine dz_aload_nN x.1 2 d_Translator_ruleAt_83 rfl rfl ?_
                refine dz_ifnullN (tgt := 96) x.1 d_Translator_ruleAt_84 (by decide) ?_
                refine dz_aload x.1 4 d_Translator_ruleAt_96 rfl ?_
                refine dz_astore_n (ls' := [(0, .ref (b + 77)), (1, .int (dz_i p)), (2, .ref (b + (5 + 3 * i))), (3, .int (dz_i (i : Int))), (4, .ref (b + (5 + 3 * i)))]) x.1 d_Translator_ruleAt_98 rfl hN (by decide) rfl ?_
                refine dz_iinc (z := (i : Int) + 1) (ls' := [(0, .ref (b + 77)), (1, .int (dz_i p)), (2, .ref (b + (5 + 3 * i))), (3, .int (dz_i ((i : Int) + 1))), (4, .ref (b + (5 + 3 * i)))]) x.1 3 d_Translator_ruleAt_99 rfl hN (by decide) (by omega) rfl ?_
                refine dz_goto (tgt := 4) x.1 d_Translator_ruleAt_102 (by decide) ?_
                refine dz_take 4 (ls' := [(0, .ref (b + 77)), (1, .int (dz_i p)), (2, .ref (b + (5 + 3 * i))), (3, .int (dz_i ((i : Int) + 1)))]) rfl ?_
                exact ih (i + 1) _ (by omega) (Or.inr ⟨i, by omega, rfl, sp_best_0 hb hM⟩)
          · refine dz_iconst x.1 d_Translator_ruleAt_53 ?_
            refine dz_goto (tgt := 58) x.1 d_Translator_ruleAt_54 (by decide) ?_
            refine dz_iload_n x.1 1 d_Translator_ruleAt_58 rfl rfl ?_
            refine dz_aload x.1 4 d_Translator_ruleAt_59 rfl ?_
            refine dz_geti (z := (sp_ln (S i))) x.1 (ly_Rule b hi9) fl_Translator_93 d_Translator_ruleAt_61 (RI.2.2 i (by omega)).1.2.1 ?_
            refine dz_iadd (z := p + (sp_ln (S i))) x.1 d_Translator_ruleAt_64 (by omega) ?_
            refine dz_aload_n x.1 0 d_Translator_ruleAt_65 rfl rfl ?_
            refine dz_geti (z := e) x.1 (ly_Translator b) fl_Translator_69 d_Translator_ruleAt_66 WI.2.1 ?_
            refine dz_icmp_ne (tgt := 76) x.1 d_Translator_ruleAt_69 (by decide) (by omega) (by omega) (fun hc69 => ?_) (fun hc69 => ?_)
            · refine dz_iconst x.1 d_Translator_ruleAt_76 ?_
              refine ly_callV (rest := []) x cl_Translator_107 (c_Rule_applies l D Dt b sz I i hi9 (S i) (RI.2.2 i (by omega)).1 (RI.2.2 i (by omega)).2 true false) (by decide) (ly_Rule b hi9) rfl rfl rfl rfl (Nat.le_of_ble_eq_true rfl) d_Translator_ruleAt_77 (fun v I' hp77 => ?_)
              obtain ⟨rfl, hp77I⟩ := hp77
              have hp77I := hp77I.symm
              subst hp77I
              show ly_V κ b sz I 80 [(0, .ref (b + 77)), (1, .int (dz_i p)), (2, .null), (3, .int (dz_i (i : Int))), (4, .ref (b + (5 + 3 * i)))] [.int (dz_i (if sp_app (sp_k (S i)) true false = true then 1 else 0))]
              refine dz_if_eq (tgt := 99) x.1 d_Translator_ruleAt_80 (by decide) (dz_br _) (fun hc80 => ?_) (fun hc80 => ?_)
              · have hc80 : ¬ (sp_app (sp_k (S i)) true false = true) := dz_bf hc80
                refine dz_iinc (z := (i : Int) + 1) (ls' := [(0, .ref (b + 77)), (1, .int (dz_i p)), (2, .null), (3, .int (dz_i ((i : Int) + 1))), (4, .ref (b + (5 + 3 * i)))]) x.1 3 d_Translator_ruleAt_99 rfl hN (by decide) (by omega) rfl ?_
                refine dz_goto (tgt := 4) x.1 d_Translator_ruleAt_102 (by decide) ?_
                refine dz_take 4 (ls' := [(0, .ref (b + 77)), (1, .int (dz_i p)), (2, .null), (3, .int (dz_i ((i : Int) + 1)))]) rfl ?_
                have hM : ¬ sp_mt g S bg e a p i = true := by
                    intro h
                    unfold sp_mt at h
                    first
                      | exact hc40 (Bool.and_eq_true_iff.mp h).1
                      | (first | rw [decide_eq_true hc50] at h | rw [decide_eq_false hc50] at h) <;> (first | rw [decide_eq_true hc69] at h | rw [decide_eq_false hc69] at h) <;> exact hc80 (Bool.and_eq_true_iff.mp h).2
                exact ih (i + 1) _ (by omega) (Or.inl ⟨rfl, (sp_best_n hM).trans hb⟩)
              · have hc80 : sp_app (sp_k (S i)) true false = true := dz_bt hc80
                have hM : sp_mt g S bg e a p i = true := by
                  unfold sp_mt
                  rw [hc40]
                  first | rw [decide_eq_true hc50] | rw [decide_eq_false hc50]
                  first | rw [decide_eq_true hc69] | rw [decide_eq_false hc69]
                  rw [hc80]; rfl
                refine dz_aload_nN x.1 2 d_Translator_ruleAt_83 rfl rfl ?_
                refine dz_ifnullN (tgt := 96) x.1 d_Translator_ruleAt_84 (by decide) ?_
                refine dz_aload x.1 4 d_Translator_ruleAt_96 rfl ?_
                refine dz_astore_n (ls' := [(0, .ref (b + 77)), (1, .int (dz_i p)), (2, .ref (b + (5 + 3 * i))), (3, .int (dz_i (i : Int))), (4, .ref (b + (5 + 3 * i)))]) x.1 d_Translator_ruleAt_98 rfl hN (by decide) rfl ?_
                refine dz_iinc (z := (i : Int) + 1) (ls' := [(0, .ref (b + 77)), (1, .int (dz_i p)), (2, .ref (b + (5 + 3 * i))), (3, .int (dz_i ((i : Int) + 1))), (4, .ref (b + (5 + 3 * i)))]) x.1 3 d_Translator_ruleAt_99 rfl hN (by decide) (by omega) rfl ?_
                refine dz_goto (tgt := 4) x.1 d_Translator_ruleAt_102 (by decide) ?_
                refine dz_take 4 (ls' := [(0, .ref (b + 77)), (1, .int (dz_i p)), (2, .ref (b + (5 + 3 * i))), (3, .int (dz_i ((i : Int) + 1)))]) rfl ?_
                exact ih (i + 1) _ (by omega) (Or.inr ⟨i, by omega, rfl, sp_best_0 hb hM⟩)
            · refine dz_iconst x.1 d_Translator_ruleAt_72 ?_
              refine dz_goto (tgt := 77) x.1 d_Translator_ruleAt_73 (by decide) ?_
              refine ly_callV (rest := []) x cl_Translator_107 (c_Rule_applies l D Dt b sz I i hi9 (S i) (RI.2.2 i (by omega)).1 (RI.2.2 i (by omega)).2 true true) (by decide) (ly_Rule b hi9) rfl rfl rfl rfl (Nat.le_of_ble_eq_true rfl) d_Translator_ruleAt_77 (fun v I' hp77 => ?_)
              obtain ⟨rfl, hp77I⟩ := hp77
              have hp77I := hp77I.symm
              subst hp77I
              show ly_V κ b sz I 80 [(0, .ref (b + 77)), (1, .int (dz_i p)), (2, .null), (3, .int (dz_i (i : Int))), (4, .ref (b + (5 + 3 * i)))] [.int (dz_i (if sp_app (sp_k (S i)) true true = true then 1 else 0))]
              refine dz_if_eq (tgt := 99) x.1 d_Translator_ruleAt_80 (by decide) (dz_br _) (fun hc80 => ?_) (fun hc80 => ?_)
              · have hc80 : ¬ (sp_app (sp_k (S i)) true true = true) := dz_bf hc80
                refine dz_iinc (z := (i : Int) + 1) (ls' := [(0, .ref (b + 77)), (1, .int (dz_i p)), (2, .null), (3, .int (dz_i ((i : Int) + 1))), (4, .ref (b + (5 + 3 * i)))]) x.1 3 d_Translator_ruleAt_99 rfl hN (by decide) (by omega) rfl ?_
                refine dz_goto (tgt := 4) x.1 d_Translator_ruleAt_102 (by decide) ?_
                refine dz_take 4 (ls' := [(0, .ref (b + 77)), (1, .int (dz_i p)), (2, .null), (3, .int (dz_i ((i : Int) + 1)))]) rfl ?_
                have hM : ¬ sp_mt g S bg e a p i = true := by
                    intro h
                    unfold sp_mt at h
                    first
                      | exact hc40 (Bool.and_eq_true_iff.mp h).1
                      | (first | rw [decide_eq_true hc50] at h | rw [decide_eq_false hc50] at h) <;> (first | rw [decide_eq_true hc69] at h | rw [decide_eq_false hc69] at h) <;> exact hc80 (Bool.and_eq_true_iff.mp h).2
                exact ih (i + 1) _ (by omega) (Or.inl ⟨rfl, (sp_best_n hM).trans hb⟩)
              · have hc80 : sp_app (sp_k (S i)) true true = true := dz_bt hc80
                have hM : sp_mt g S bg e a p i = true := by
                  unfold sp_mt
                  rw [hc40]
                  first | rw [decide_eq_true hc50] | rw [decide_eq_false hc50]
                  first | rw [decide_eq_true hc69] | rw [decide_eq_false hc69]
                  rw [hc80]; rfl
                refine dz_aload_nN x.1 2 d_Translator_ruleAt_83 rfl rfl ?_
                refine dz_ifnullN (tgt := 96) x.1 d_Translator_ruleAt_84 (by decide) ?_
                refine dz_aload x.1 4 d_Translator_ruleAt_96 rfl ?_
                refine dz_astore_n (ls' := [(0, .ref (b + 77)), (1, .int (dz_i p)), (2, .ref (b + (5 + 3 * i))), (3, .int (dz_i (i : Int))), (4, .ref (b + (5 + 3 * i)))]) x.1 d_Translator_ruleAt_98 rfl hN (by decide) rfl ?_
                refine dz_iinc (z := (i : Int) + 1) (ls' := [(0, .ref (b + 77)), (1, .int (dz_i p)), (2, .ref (b + (5 + 3 * i))), (3, .int (dz_i ((i : Int) + 1))), (4, .ref (b + (5 + 3 * i)))]) x.1 3 d_Translator_ruleAt_99 rfl hN (by decide) (by omega) rfl ?_
                refine dz_goto (tgt := 4) x.1 d_Translator_ruleAt_102 (by decide) ?_
                refine dz_take 4 (ls' := [(0, .ref (b + 77)), (1, .int (dz_i p)), (2, .ref (b + (5 + 3 * i))), (3, .int (dz_i ((i : Int) + 1)))]) rfl ?_
                exact ih (i + 1) _ (by omega) (Or.inr ⟨i, by omega, rfl, sp_best_0 hb hM⟩)
      · have hj24 : True := trivial
        refine dz_iload_n x.1 3 d_Translator_ruleAt_4 rfl rfl ?_
        refine dz_aload_n x.1 0 d_Translator_ruleAt_5 rfl rfl ?_
        refine dz_getr x.1 (ly_Translator b) fl_Translator_15 (lr_Translator_1 b) d_Translator_ruleAt_6 ?_
        refine dz_geti (z := (c : Int)) x.1 (ly_RuleList b) fl_Translator_96 d_Translator_ruleAt_9 RI.1 ?_
        refine dz_icmp_ge (tgt := 105) x.1 d_Translator_ruleAt_12 (by decide) (by omega) (by omega) (fun hc12 => by exfalso; omega) (fun hc12 => ?_)
        refine dz_aload_n x.1 0 d_Translator_ruleAt_15 rfl rfl ?_
        refine dz_getr x.1 (ly_Translator b) fl_Translator_15 (lr_Translator_1 b) d_Translator_ruleAt_16 ?_
        refine dz_getr x.1 (ly_RuleList b) fl_Translator_99 (lr_RuleList_0 b) d_Translator_ruleAt_19 ?_
        refine dz_iload_n x.1 3 d_Translator_ruleAt_22 rfl rfl ?_
        refine dz_aald3 x.1 (ly_RuleArr b) (by decide) (by omega) (lr_RuleArr b hi9) d_Translator_ruleAt_23 ?_
        refine dz_astore (ls' := [(0, .ref (b + 77)), (1, .int (dz_i p)), (2, .ref (b + (5 + 3 * j))), (3, .int (dz_i (i : Int))), (4, .ref (b + (5 + 3 * i)))]) x.1 d_Translator_ruleAt_24 hN (by decide) rfl ?_
        refine dz_aload x.1 4 d_Translator_ruleAt_26 rfl ?_
        refine dz_aload_n x.1 0 d_Translator_ruleAt_28 rfl rfl ?_
        refine dz_getr x.1 (ly_Translator b) fl_Translator_9 (lr_Translator_0 b) d_Translator_ruleAt_29 ?_
        refine dz_iload_n x.1 1 d_Translator_ruleAt_32 rfl rfl ?_
        refine dz_aload_n x.1 0 d_Translator_ruleAt_33 rfl rfl ?_
        refine dz_geti (z := (if a = true then 1 else 0)) x.1 (ly_Translator b) fl_Translator_72 d_Translator_ruleAt_34 WI.2.2 ?_
        refine ly_callV (rest := []) x cl_Translator_103 (c_Rule_hasLettersAt l D Dt b sz I i hi9 (S i) (RI.2.2 i (by omega)).1 (RI.2.2 i (by omega)).2 n g TI p (by omega) a) (by decide) (ly_Rule b hi9) rfl rfl rfl rfl (Nat.le_of_ble_eq_true rfl) d_Translator_ruleAt_37 (fun v I' hp37 => ?_)
        obtain ⟨rfl, hp37I⟩ := hp37
        have hp37I := hp37I.symm
        subst hp37I
        show ly_V κ b sz I 40 [(0, .ref (b + 77)), (1, .int (dz_i p)), (2, .ref (b + (5 + 3 * j))), (3, .int (dz_i (i : Int))), (4, .ref (b + (5 + 3 * i)))] [.int (dz_i (if sp_all (sp_hl g p a (S i)) (sp_ln (S i)).toNat = true then 1 else 0))]
        refine dz_if_eq (tgt := 99) x.1 d_Translator_ruleAt_40 (by decide) (dz_br _) (fun hc40 => ?_) (fun hc40 => ?_)
        · have hc40 : ¬ (sp_all (sp_hl g p a (S i)) (sp_ln (S i)).toNat = true) := dz_bf hc40
          refine dz_iinc (z := (i : Int) + 1) (ls' := [(0, .ref (b + 77)), (1, .int (dz_i p)), (2, .ref (b + (5 + 3 * j))), (3, .int (dz_i ((i : Int) + 1))), (4, .ref (b + (5 + 3 * i)))]) x.1 3 d_Translator_ruleAt_99 rfl hN (by decide) (by omega) rfl ?_
          refine dz_goto (tgt := 4) x.1 d_Translator_ruleAt_102 (by decide) ?_
          refine dz_take 4 (ls' := [(0, .ref (b + 77)), (1, .int (dz_i p)), (2, .ref (b + (5 + 3 * j))), (3, .int (dz_i ((i : Int) + 1)))]) rfl ?_
          first
            | exact ih (i + 1) _ (by omega) (Or.inr ⟨j, hj, rfl, sp_best_f hb (fun z => hc93 (of_decide_eq_true z))⟩)
            | exact ih (i + 1) _ (by omega) (Or.inr ⟨j, hj, rfl, (sp_best_n (by
                intro h
                unfold sp_mt at h
                first
                  | exact hc40 (Bool.and_eq_true_iff.mp h).1
                  | (first | rw [decide_eq_true hc50] at h | rw [decide_eq_false hc50] at h) <;> (first | rw [decide_eq_true hc69] at h | rw [decide_eq_false hc69] at h) <;> exact hc80 (Bool.and_eq_true_iff.mp h).2)).trans hb⟩)
        · have hc40 : sp_all (sp_hl g p a (S i)) (sp_ln (S i)).toNat = true := dz_bt hc40
          refine dz_aload x.1 4 d_Translator_ruleAt_43 rfl ?_
          refine dz_iload_n x.1 1 d_Translator_ruleAt_45 rfl rfl ?_
          refine dz_aload_n x.1 0 d_Translator_ruleAt_46 rfl rfl ?_
          refine dz_geti (z := bg) x.1 (ly_Translator b) fl_Translator_66 d_Translator_ruleAt_47 WI.1 ?_
          refine dz_icmp_ne (tgt := 57) x.1 d_Translator_ruleAt_50 (by decide) (by omega) (by omega) (fun hc50 => ?_) (fun hc50 => ?_)
          · refine dz_iconst x.1 d_Translator_ruleAt_57 ?_
            refine dz_iload_n x.1 1 d_Translator_ruleAt_58 rfl rfl ?_
            refine dz_aload x.1 4 d_Translator_ruleAt_59 rfl ?_
            refine dz_geti (z := (sp_ln (S i))) x.1 (ly_Rule b hi9) fl_Translator_93 d_Translator_ruleAt_61 (RI.2.2 i (by omega)).1.2.1 ?_
            refine dz_iadd (z := p + (sp_ln (S i))) x.1 d_Translator_ruleAt_64 (by omega) ?_
            refine dz_aload_n x.1 0 d_Translator_ruleAt_65 rfl rfl ?_
            refine dz_geti (z := e) x.1 (ly_Translator b) fl_Translator_69 d_Translator_ruleAt_66 WI.2.1 ?_
            refine dz_icmp_ne (tgt := 76) x.1 d_Translator_ruleAt_69 (by decide) (by omega) (by omega) (fun hc69 => ?_) (fun hc69 => ?_)
            · refine dz_iconst x.1 d_Translator_ruleAt_76 ?_
              refine ly_callV (rest := []) x cl_Translator_107 (c_Rule_applies l D Dt b sz I i hi9 (S i) (RI.2.2 i (by omega)).1 (RI.2.2 i (by omega)).2 false false) (by decide) (ly_Rule b hi9) rfl rfl rfl rfl (Nat.le_of_ble_eq_true rfl) d_Translator_ruleAt_77 (fun v I' hp77 => ?_)
              obtain ⟨rfl, hp77I⟩ := hp77
              have hp77I := hp77I.symm
              subst hp77I
              show ly_V κ b sz I 80 [(0, .ref (b + 77)), (1, .int (dz_i p)), (2, .ref (b + (5 + 3 * j))), (3, .int (dz_i (i : Int))), (4, .ref (b + (5 + 3 * i)))] [.int (dz_i (if sp_app (sp_k (S i)) false false = true then 1 else 0))]
              refine dz_if_eq (tgt := 99) x.1 d_Translator_ruleAt_80 (by decide) (dz_br _) (fun hc80 => ?_) (fun hc80 => ?_)
              · have hc80 : ¬ (sp_app (sp_k (S i)) false false = true) := dz_bf hc80
                refine dz_iinc (z := (i : Int) + 1) (ls' := [(0, .ref (b + 77)), (1, .int (dz_i p)), (2, .ref (b + (5 + 3 * j))), (3, .int (dz_i ((i : Int) + 1))), (4, .ref (b + (5 + 3 * i)))]) x.1 3 d_Translator_ruleAt_99 rfl hN (by decide) (by omega) rfl ?_
                refine dz_goto (tgt := 4) x.1 d_Translator_ruleAt_102 (by decide) ?_
                refine dz_take 4 (ls' := [(0, .ref (b + 77)), (1, .int (dz_i p)), (2, .ref (b + (5 + 3 * j))), (3, .int (dz_i ((i : Int) + 1)))]) rfl ?_
                first
                  | exact ih (i + 1) _ (by omega) (Or.inr ⟨j, hj, rfl, sp_best_f hb (fun z => hc93 (of_decide_eq_true z))⟩)
                  | exact ih (i + 1) _ (by omega) (Or.inr ⟨j, hj, rfl, (sp_best_n (by
                      intro h
                      unfold sp_mt at h
                      first
                        | exact hc40 (Bool.and_eq_true_iff.mp h).1
                        | (first | rw [decide_eq_true hc50] at h | rw [decide_eq_false hc50] at h) <;> (first | rw [decide_eq_true hc69] at h | rw [decide_eq_false hc69] at h) <;> exact hc80 (Bool.and_eq_true_iff.mp h).2)).trans hb⟩)
              · have hc80 : sp_app (sp_k (S i)) false false = true := dz_bt hc80
                have hM : sp_mt g S bg e a p i = true := by
                  unfold sp_mt
                  rw [hc40]
                  first | rw [decide_eq_true hc50] | rw [decide_eq_false hc50]
                  first | rw [decide_eq_true hc69] | rw [decide_eq_false hc69]
                  rw [hc80]; rfl
                refine dz_aload_n x.1 2 d_Translator_ruleAt_83 rfl rfl ?_
                refine dz_ifnull x.1 d_Translator_ruleAt_84 ?_
                refine dz_aload x.1 4 d_Translator_ruleAt_87 rfl ?_
                refine dz_aload_n x.1 2 d_Translator_ruleAt_89 rfl rfl ?_
                refine ly_callS (rest := []) x cl_Translator_111 (c_Translator_isBetter l D Dt b sz I i hi9 (S i) (RI.2.2 i (by omega)).1 (RI.2.2 i (by omega)).2 j (by omega) (S j) (RI.2.2 j (by omega)).1 (RI.2.2 j (by omega)).2) (by decide) rfl rfl (Nat.le_of_ble_eq_true rfl) d_Translator_ruleAt_90 (fun v I' hp90 => ?_)
                obtain ⟨rfl, hp90I⟩ := hp90
                have hp90I := hp90I.symm
                subst hp90I
                show ly_V κ b sz I 93 [(0, .ref (b + 77)), (1, .int (dz_i p)), (2, .ref (b + (5 + 3 * j))), (3, .int (dz_i (i : Int))), (4, .ref (b + (5 + 3 * i)))] [.int (dz_i (if sp_ln (S j) < sp_ln (S i) ∨ (sp_ln (S i) = sp_ln (S j) ∧ sp_k (S i) < sp_k (S j)) then 1 else 0))]
                refine dz_if_eq (tgt := 99) x.1 d_Translator_ruleAt_93 (by decide) (dz_br _) (fun hc93 => ?_) (fun hc93 => ?_)
                · have hc93 : ¬ (sp_ln (S j) < sp_ln (S i) ∨ (sp_ln (S i) = sp_ln (S j) ∧ sp_k (S i) < sp_k (S j))) := dz_bf hc93
                  refine dz_iinc (z := (i : Int) + 1) (ls' := [(0, .ref (b + 77)), (1, .int (dz_i p)), (2, .ref (b + (5 + 3 * j))), (3, .int (dz_i ((i : Int) + 1))), (4, .ref (b + (5 + 3 * i)))]) x.1 3 d_Translator_ruleAt_99 rfl hN (by decide) (by omega) rfl ?_
                  refine dz_goto (tgt := 4) x.1 d_Translator_ruleAt_102 (by decide) ?_
                  refine dz_take 4 (ls' := [(0, .ref (b + 77)), (1, .int (dz_i p)), (2, .ref (b + (5 + 3 * j))), (3, .int (dz_i ((i : Int) + 1)))]) rfl ?_
                  first
                    | exact ih (i + 1) _ (by omega) (Or.inr ⟨j, hj, rfl, sp_best_f hb (fun z => hc93 (of_decide_eq_true z))⟩)
                    | exact ih (i + 1) _ (by omega) (Or.inr ⟨j, hj, rfl, (sp_best_n (by
                        intro h
                        unfold sp_mt at h
                        first
                          | exact hc40 (Bool.and_eq_true_iff.mp h).1
                          | (first | rw [decide_eq_true hc50] at h | rw [decide_eq_false hc50] at h) <;> (first | rw [decide_eq_true hc69] at h | rw [decide_eq_false hc69] at h) <;> exact hc80 (Bool.and_eq_true_iff.mp h).2)).trans hb⟩)
                · have hc93 : sp_ln (S j) < sp_ln (S i) ∨ (sp_ln (S i) = sp_ln (S j) ∧ sp_k (S i) < sp_k (S j)) := dz_bt hc93
                  refine dz_aload x.1 4 d_Translator_ruleAt_96 rfl ?_
                  refine dz_astore_n (ls' := [(0, .ref (b + 77)), (1, .int (dz_i p)), (2, .ref (b + (5 + 3 * i))), (3, .int (dz_i (i : Int))), (4, .ref (b + (5 + 3 * i)))]) x.1 d_Translator_ruleAt_98 rfl hN (by decide) rfl ?_
                  refine dz_iinc (z := (i : Int) + 1) (ls' := [(0, .ref (b + 77)), (1, .int (dz_i p)), (2, .ref (b + (5 + 3 * i))), (3, .int (dz_i ((i : Int) + 1))), (4, .ref (b + (5 + 3 * i)))]) x.1 3 d_Translator_ruleAt_99 rfl hN (by decide) (by omega) rfl ?_
                  refine dz_goto (tgt := 4) x.1 d_Translator_ruleAt_102 (by decide) ?_
                  refine dz_take 4 (ls' := [(0, .ref (b + 77)), (1, .int (dz_i p)), (2, .ref (b + (5 + 3 * i))), (3, .int (dz_i ((i : Int) + 1)))]) rfl ?_
                  exact ih (i + 1) _ (by omega) (Or.inr ⟨i, by omega, rfl, sp_best_t hb hM (decide_eq_true hc93)⟩)
            · refine dz_iconst x.1 d_Translator_ruleAt_72 ?_
              refine dz_goto (tgt := 77) x.1 d_Translator_ruleAt_73 (by decide) ?_
              refine ly_callV (rest := []) x cl_Translator_107 (c_Rule_applies l D Dt b sz I i hi9 (S i) (RI.2.2 i (by omega)).1 (RI.2.2 i (by omega)).2 false true) (by decide) (ly_Rule b hi9) rfl rfl rfl rfl (Nat.le_of_ble_eq_true rfl) d_Translator_ruleAt_77 (fun v I' hp77 => ?_)
              obtain ⟨rfl, hp77I⟩ := hp77
              have hp77I := hp77I.symm
              subst hp77I
              show ly_V κ b sz I 80 [(0, .ref (b + 77)), (1, .int (dz_i p)), (2, .ref (b + (5 + 3 * j))), (3, .int (dz_i (i : Int))), (4, .ref (b + (5 + 3 * i)))] [.int (dz_i (if sp_app (sp_k (S i)) false true = true then 1 else 0))]
              refine dz_if_eq (tgt := 99) x.1 d_Translator_ruleAt_80 (by decide) (dz_br _) (fun hc80 => ?_) (fun hc80 => ?_)
              · have hc80 : ¬ (sp_app (sp_k (S i)) false true = true) := dz_bf hc80
                refine dz_iinc (z := (i : Int) + 1) (ls' := [(0, .ref (b + 77)), (1, .int (dz_i p)), (2, .ref (b + (5 + 3 * j))), (3, .int (dz_i ((i : Int) + 1))), (4, .ref (b + (5 + 3 * i)))]) x.1 3 d_Translator_ruleAt_99 rfl hN (by decide) (by omega) rfl ?_
                refine dz_goto (tgt := 4) x.1 d_Translator_ruleAt_102 (by decide) ?_
                refine dz_take 4 (ls' := [(0, .ref (b + 77)), (1, .int (dz_i p)), (2, .ref (b + (5 + 3 * j))), (3, .int (dz_i ((i : Int) + 1)))]) rfl ?_
                first
                  | exact ih (i + 1) _ (by omega) (Or.inr ⟨j, hj, rfl, sp_best_f hb (fun z => hc93 (of_decide_eq_true z))⟩)
                  | exact ih (i + 1) _ (by omega) (Or.inr ⟨j, hj, rfl, (sp_best_n (by
                      intro h
                      unfold sp_mt at h
                      first
                        | exact hc40 (Bool.and_eq_true_iff.mp h).1
                        | (first | rw [decide_eq_true hc50] at h | rw [decide_eq_false hc50] at h) <;> (first | rw [decide_eq_true hc69] at h | rw [decide_eq_false hc69] at h) <;> exact hc80 (Bool.and_eq_true_iff.mp h).2)).trans hb⟩)
              · have hc80 : sp_app (sp_k (S i)) false true = true := dz_bt hc80
                have hM : sp_mt g S bg e a p i = true := by
                  unfold sp_mt
                  rw [hc40]
                  first | rw [decide_eq_true hc50] | rw [decide_eq_false hc50]
                  first | rw [decide_eq_true hc69] | rw [decide_eq_false hc69]
                  rw [hc80]; rfl
                refine dz_aload_n x.1 2 d_Translator_ruleAt_83 rfl rfl ?_
                refine dz_ifnull x.1 d_Translator_ruleAt_84 ?_
                refine dz_aload x.1 4 d_Translator_ruleAt_87 rfl ?_
                refine dz_aload_n x.1 2 d_Translator_ruleAt_89 rfl rfl ?_
                refine ly_callS (rest := []) x cl_Translator_111 (c_Translator_isBetter l D Dt b sz I i hi9 (S i) (RI.2.2 i (by omega)).1 (RI.2.2 i (by omega)).2 j (by omega) (S j) (RI.2.2 j (by omega)).1 (RI.2.2 j (by omega)).2) (by decide) rfl rfl (Nat.le_of_ble_eq_true rfl) d_Translator_ruleAt_90 (fun v I' hp90 => ?_)
                obtain ⟨rfl, hp90I⟩ := hp90
                have hp90I := hp90I.symm
                subst hp90I
                show ly_V κ b sz I 93 [(0, .ref (b + 77)), (1, .int (dz_i p)), (2, .ref (b + (5 + 3 * j))), (3, .int (dz_i (i : Int))), (4, .ref (b + (5 + 3 * i)))] [.int (dz_i (if sp_ln (S j) < sp_ln (S i) ∨ (sp_ln (S i) = sp_ln (S j) ∧ sp_k (S i) < sp_k (S j)) then 1 else 0))]
                refine dz_if_eq (tgt := 99) x.1 d_Translator_ruleAt_93 (by decide) (dz_br _) (fun hc93 => ?_) (fun hc93 => ?_)
                · have hc93 : ¬ (sp_ln (S j) < sp_ln (S i) ∨ (sp_ln (S i) = sp_ln (S j) ∧ sp_k (S i) < sp_k (S j))) := dz_bf hc93
                  refine dz_iinc (z := (i : Int) + 1) (ls' := [(0, .ref (b + 77)), (1, .int (dz_i p)), (2, .ref (b + (5 + 3 * j))), (3, .int (dz_i ((i : Int) + 1))), (4, .ref (b + (5 + 3 * i)))]) x.1 3 d_Translator_ruleAt_99 rfl hN (by decide) (by omega) rfl ?_
                  refine dz_goto (tgt := 4) x.1 d_Translator_ruleAt_102 (by decide) ?_
                  refine dz_take 4 (ls' := [(0, .ref (b + 77)), (1, .int (dz_i p)), (2, .ref (b + (5 + 3 * j))), (3, .int (dz_i ((i : Int) + 1)))]) rfl ?_
                  first
                    | exact ih (i + 1) _ (by omega) (Or.inr ⟨j, hj, rfl, sp_best_f hb (fun z => hc93 (of_decide_eq_true z))⟩)
                    | exact ih (i + 1) _ (by omega) (Or.inr ⟨j, hj, rfl, (sp_best_n (by
                        intro h
                        unfold sp_mt at h
                        first
                          | exact hc40 (Bool.and_eq_true_iff.mp h).1
                          | (first | rw [decide_eq_true hc50] at h | rw [decide_eq_false hc50] at h) <;> (first | rw [decide_eq_true hc69] at h | rw [decide_eq_false hc69] at h) <;> exact hc80 (Bool.and_eq_true_iff.mp h).2)).trans hb⟩)
                · have hc93 : sp_ln (S j) < sp_ln (S i) ∨ (sp_ln (S i) = sp_ln (S j) ∧ sp_k (S i) < sp_k (S j)) := dz_bt hc93
                  refine dz_aload x.1 4 d_Translator_ruleAt_96 rfl ?_
                  refine dz_astore_n (ls' := [(0, .ref (b + 77)), (1, .int (dz_i p)), (2, .ref (b + (5 + 3 * i))), (3, .int (dz_i (i : Int))), (4, .ref (b + (5 + 3 * i)))]) x.1 d_Translator_ruleAt_98 rfl hN (by decide) rfl ?_
                  refine dz_iinc (z := (i : Int) + 1) (ls' := [(0, .ref (b + 77)), (1, .int (dz_i p)), (2, .ref (b + (5 + 3 * i))), (3, .int (dz_i ((i : Int) + 1))), (4, .ref (b + (5 + 3 * i)))]) x.1 3 d_Translator_ruleAt_99 rfl hN (by decide) (by omega) rfl ?_
                  refine dz_goto (tgt := 4) x.1 d_Translator_ruleAt_102 (by decide) ?_
                  refine dz_take 4 (ls' := [(0, .ref (b + 77)), (1, .int (dz_i p)), (2, .ref (b + (5 + 3 * i))), (3, .int (dz_i ((i : Int) + 1)))]) rfl ?_
                  exact ih (i + 1) _ (by omega) (Or.inr ⟨i, by omega, rfl, sp_best_t hb hM (decide_eq_true hc93)⟩)
          · refine dz_iconst x.1 d_Translator_ruleAt_53 ?_
            refine dz_goto (tgt := 58) x.1 d_Translator_ruleAt_54 (by decide) ?_
            refine dz_iload_n x.1 1 d_Translator_ruleAt_58 rfl rfl ?_
            refine dz_aload x.1 4 d_Translator_ruleAt_59 rfl ?_
            refine dz_geti (z := (sp_ln (S i))) x.1 (ly_Rule b hi9) fl_Translator_93 d_Translator_ruleAt_61 (RI.2.2 i (by omega)).1.2.1 ?_
            refine dz_iadd (z := p + (sp_ln (S i))) x.1 d_Translator_ruleAt_64 (by omega) ?_
            refine dz_aload_n x.1 0 d_Translator_ruleAt_65 rfl rfl ?_
            refine dz_geti (z := e) x.1 (ly_Translator b) fl_Translator_69 d_Translator_ruleAt_66 WI.2.1 ?_
            refine dz_icmp_ne (tgt := 76) x.1 d_Translator_ruleAt_69 (by decide) (by omega) (by omega) (fun hc69 => ?_) (fun hc69 => ?_)
            · refine dz_iconst x.1 d_Translator_ruleAt_76 ?_
              refine ly_callV (rest := []) x cl_Translator_107 (c_Rule_applies l D Dt b sz I i hi9 (S i) (RI.2.2 i (by omega)).1 (RI.2.2 i (by omega)).2 true false) (by decide) (ly_Rule b hi9) rfl rfl rfl rfl (Nat.le_of_ble_eq_true rfl) d_Translator_ruleAt_77 (fun v I' hp77 => ?_)
              obtain ⟨rfl, hp77I⟩ := hp77
              have hp77I := hp77I.symm
              subst hp77I
              show ly_V κ b sz I 80 [(0, .ref (b + 77)), (1, .int (dz_i p)), (2, .ref (b + (5 + 3 * j))), (3, .int (dz_i (i : Int))), (4, .ref (b + (5 + 3 * i)))] [.int (dz_i (if sp_app (sp_k (S i)) true false = true then 1 else 0))]
              refine dz_if_eq (tgt := 99) x.1 d_Translator_ruleAt_80 (by decide) (dz_br _) (fun hc80 => ?_) (fun hc80 => ?_)
              · have hc80 : ¬ (sp_app (sp_k (S i)) true false = true) := dz_bf hc80
                refine dz_iinc (z := (i : Int) + 1) (ls' := [(0, .ref (b + 77)), (1, .int (dz_i p)), (2, .ref (b + (5 + 3 * j))), (3, .int (dz_i ((i : Int) + 1))), (4, .ref (b + (5 + 3 * i)))]) x.1 3 d_Translator_ruleAt_99 rfl hN (by decide) (by omega) rfl ?_
                refine dz_goto (tgt := 4) x.1 d_Translator_ruleAt_102 (by decide) ?_
                refine dz_take 4 (ls' := [(0, .ref (b + 77)), (1, .int (dz_i p)), (2, .ref (b + (5 + 3 * j))), (3, .int (dz_i ((i : Int) + 1)))]) rfl ?_
                first
                  | exact ih (i + 1) _ (by omega) (Or.inr ⟨j, hj, rfl, sp_best_f hb (fun z => hc93 (of_decide_eq_true z))⟩)
                  | exact ih (i + 1) _ (by omega) (Or.inr ⟨j, hj, rfl, (sp_best_n (by
                      intro h
                      unfold sp_mt at h
                      first
                        | exact hc40 (Bool.and_eq_true_iff.mp h).1
                        | (first | rw [decide_eq_true hc50] at h | rw [decide_eq_false hc50] at h) <;> (first | rw [decide_eq_true hc69] at h | rw [decide_eq_false hc69] at h) <;> exact hc80 (Bool.and_eq_true_iff.mp h).2)).trans hb⟩)
              · have hc80 : sp_app (sp_k (S i)) true false = true := dz_bt hc80
                have hM : sp_mt g S bg e a p i = true := by
                  unfold sp_mt
                  rw [hc40]
                  first | rw [decide_eq_true hc50] | rw [decide_eq_false hc50]
                  first | rw [decide_eq_true hc69] | rw [decide_eq_false hc69]
                  rw [hc80]; rfl
                refine dz_aload_n x.1 2 d_Translator_ruleAt_83 rfl rfl ?_
                refine dz_ifnull x.1 d_Translator_ruleAt_84 ?_
                refine dz_aload x.1 4 d_Translator_ruleAt_87 rfl ?_
                refine dz_aload_n x.1 2 d_Translator_ruleAt_89 rfl rfl ?_
                refine ly_callS (rest := []) x cl_Translator_111 (c_Translator_isBetter l D Dt b sz I i hi9 (S i) (RI.2.2 i (by omega)).1 (RI.2.2 i (by omega)).2 j (by omega) (S j) (RI.2.2 j (by omega)).1 (RI.2.2 j (by omega)).2) (by decide) rfl rfl (Nat.le_of_ble_eq_true rfl) d_Translator_ruleAt_90 (fun v I' hp90 => ?_)
                obtain ⟨rfl, hp90I⟩ := hp90
                have hp90I := hp90I.symm
                subst hp90I
                show ly_V κ b sz I 93 [(0, .ref (b + 77)), (1, .int (dz_i p)), (2, .ref (b + (5 + 3 * j))), (3, .int (dz_i (i : Int))), (4, .ref (b + (5 + 3 * i)))] [.int (dz_i (if sp_ln (S j) < sp_ln (S i) ∨ (sp_ln (S i) = sp_ln (S j) ∧ sp_k (S i) < sp_k (S j)) then 1 else 0))]
                refine dz_if_eq (tgt := 99) x.1 d_Translator_ruleAt_93 (by decide) (dz_br _) (fun hc93 => ?_) (fun hc93 => ?_)
                · have hc93 : ¬ (sp_ln (S j) < sp_ln (S i) ∨ (sp_ln (S i) = sp_ln (S j) ∧ sp_k (S i) < sp_k (S j))) := dz_bf hc93
                  refine dz_iinc (z := (i : Int) + 1) (ls' := [(0, .ref (b + 77)), (1, .int (dz_i p)), (2, .ref (b + (5 + 3 * j))), (3, .int (dz_i ((i : Int) + 1))), (4, .ref (b + (5 + 3 * i)))]) x.1 3 d_Translator_ruleAt_99 rfl hN (by decide) (by omega) rfl ?_
                  refine dz_goto (tgt := 4) x.1 d_Translator_ruleAt_102 (by decide) ?_
                  refine dz_take 4 (ls' := [(0, .ref (b + 77)), (1, .int (dz_i p)), (2, .ref (b + (5 + 3 * j))), (3, .int (dz_i ((i : Int) + 1)))]) rfl ?_
                  first
                    | exact ih (i + 1) _ (by omega) (Or.inr ⟨j, hj, rfl, sp_best_f hb (fun z => hc93 (of_decide_eq_true z))⟩)
                    | exact ih (i + 1) _ (by omega) (Or.inr ⟨j, hj, rfl, (sp_best_n (by
                        intro h
                        unfold sp_mt at h
                        first
                          | exact hc40 (Bool.and_eq_true_iff.mp h).1
                          | (first | rw [decide_eq_true hc50] at h | rw [decide_eq_false hc50] at h) <;> (first | rw [decide_eq_true hc69] at h | rw [decide_eq_false hc69] at h) <;> exact hc80 (Bool.and_eq_true_iff.mp h).2)).trans hb⟩)
                · have hc93 : sp_ln (S j) < sp_ln (S i) ∨ (sp_ln (S i) = sp_ln (S j) ∧ sp_k (S i) < sp_k (S j)) := dz_bt hc93
                  refine dz_aload x.1 4 d_Translator_ruleAt_96 rfl ?_
                  refine dz_astore_n (ls' := [(0, .ref (b + 77)), (1, .int (dz_i p)), (2, .ref (b + (5 + 3 * i))), (3, .int (dz_i (i : Int))), (4, .ref (b + (5 + 3 * i)))]) x.1 d_Translator_ruleAt_98 rfl hN (by decide) rfl ?_
                  refine dz_iinc (z := (i : Int) + 1) (ls' := [(0, .ref (b + 77)), (1, .int (dz_i p)), (2, .ref (b + (5 + 3 * i))), (3, .int (dz_i ((i : Int) + 1))), (4, .ref (b + (5 + 3 * i)))]) x.1 3 d_Translator_ruleAt_99 rfl hN (by decide) (by omega) rfl ?_
                  refine dz_goto (tgt := 4) x.1 d_Translator_ruleAt_102 (by decide) ?_
                  refine dz_take 4 (ls' := [(0, .ref (b + 77)), (1, .int (dz_i p)), (2, .ref (b + (5 + 3 * i))), (3, .int (dz_i ((i : Int) + 1)))]) rfl ?_
                  exact ih (i + 1) _ (by omega) (Or.inr ⟨i, by omega, rfl, sp_best_t hb hM (decide_eq_true hc93)⟩)
            · refine dz_iconst x.1 d_Translator_ruleAt_72 ?_
              refine dz_goto (tgt := 77) x.1 d_Translator_ruleAt_73 (by decide) ?_
              refine ly_callV (rest := []) x cl_Translator_107 (c_Rule_applies l D Dt b sz I i hi9 (S i) (RI.2.2 i (by omega)).1 (RI.2.2 i (by omega)).2 true true) (by decide) (ly_Rule b hi9) rfl rfl rfl rfl (Nat.le_of_ble_eq_true rfl) d_Translator_ruleAt_77 (fun v I' hp77 => ?_)
              obtain ⟨rfl, hp77I⟩ := hp77
              have hp77I := hp77I.symm
              subst hp77I
              show ly_V κ b sz I 80 [(0, .ref (b + 77)), (1, .int (dz_i p)), (2, .ref (b + (5 + 3 * j))), (3, .int (dz_i (i : Int))), (4, .ref (b + (5 + 3 * i)))] [.int (dz_i (if sp_app (sp_k (S i)) true true = true then 1 else 0))]
              refine dz_if_eq (tgt := 99) x.1 d_Translator_ruleAt_80 (by decide) (dz_br _) (fun hc80 => ?_) (fun hc80 => ?_)
              · have hc80 : ¬ (sp_app (sp_k (S i)) true true = true) := dz_bf hc80
                refine dz_iinc (z := (i : Int) + 1) (ls' := [(0, .ref (b + 77)), (1, .int (dz_i p)), (2, .ref (b + (5 + 3 * j))), (3, .int (dz_i ((i : Int) + 1))), (4, .ref (b + (5 + 3 * i)))]) x.1 3 d_Translator_ruleAt_99 rfl hN (by decide) (by omega) rfl ?_
                refine dz_goto (tgt := 4) x.1 d_Translator_ruleAt_102 (by decide) ?_
                refine dz_take 4 (ls' := [(0, .ref (b + 77)), (1, .int (dz_i p)), (2, .ref (b + (5 + 3 * j))), (3, .int (dz_i ((i : Int) + 1)))]) rfl ?_
                first
                  | exact ih (i + 1) _ (by omega) (Or.inr ⟨j, hj, rfl, sp_best_f hb (fun z => hc93 (of_decide_eq_true z))⟩)
                  | exact ih (i + 1) _ (by omega) (Or.inr ⟨j, hj, rfl, (sp_best_n (by
                      intro h
                      unfold sp_mt at h
                      first
                        | exact hc40 (Bool.and_eq_true_iff.mp h).1
                        | (first | rw [decide_eq_true hc50] at h | rw [decide_eq_false hc50] at h) <;> (first | rw [decide_eq_true hc69] at h | rw [decide_eq_false hc69] at h) <;> exact hc80 (Bool.and_eq_true_iff.mp h).2)).trans hb⟩)
              · have hc80 : sp_app (sp_k (S i)) true true = true := dz_bt hc80
                have hM : sp_mt g S bg e a p i = true := by
                  unfold sp_mt
                  rw [hc40]
                  first | rw [decide_eq_true hc50] | rw [decide_eq_false hc50]
                  first | rw [decide_eq_true hc69] | rw [decide_eq_false hc69]
                  rw [hc80]; rfl
                refine dz_aload_n x.1 2 d_Translator_ruleAt_83 rfl rfl ?_
                refine dz_ifnull x.1 d_Translator_ruleAt_84 ?_
                refine dz_aload x.1 4 d_Translator_ruleAt_87 rfl ?_
                refine dz_aload_n x.1 2 d_Translator_ruleAt_89 rfl rfl ?_
                refine ly_callS (rest := []) x cl_Translator_111 (c_Translator_isBetter l D Dt b sz I i hi9 (S i) (RI.2.2 i (by omega)).1 (RI.2.2 i (by omega)).2 j (by omega) (S j) (RI.2.2 j (by omega)).1 (RI.2.2 j (by omega)).2) (by decide) rfl rfl (Nat.le_of_ble_eq_true rfl) d_Translator_ruleAt_90 (fun v I' hp90 => ?_)
                obtain ⟨rfl, hp90I⟩ := hp90
                have hp90I := hp90I.symm
                subst hp90I
                show ly_V κ b sz I 93 [(0, .ref (b + 77)), (1, .int (dz_i p)), (2, .ref (b + (5 + 3 * j))), (3, .int (dz_i (i : Int))), (4, .ref (b + (5 + 3 * i)))] [.int (dz_i (if sp_ln (S j) < sp_ln (S i) ∨ (sp_ln (S i) = sp_ln (S j) ∧ sp_k (S i) < sp_k (S j)) then 1 else 0))]
                refine dz_if_eq (tgt := 99) x.1 d_Translator_ruleAt_93 (by decide) (dz_br _) (fun hc93 => ?_) (fun hc93 => ?_)
                · have hc93 : ¬ (sp_ln (S j) < sp_ln (S i) ∨ (sp_ln (S i) = sp_ln (S j) ∧ sp_k (S i) < sp_k (S j))) := dz_bf hc93
                  refine dz_iinc (z := (i : Int) + 1) (ls' := [(0, .ref (b + 77)), (1, .int (dz_i p)), (2, .ref (b + (5 + 3 * j))), (3, .int (dz_i ((i : Int) + 1))), (4, .ref (b + (5 + 3 * i)))]) x.1 3 d_Translator_ruleAt_99 rfl hN (by decide) (by omega) rfl ?_
                  refine dz_goto (tgt := 4) x.1 d_Translator_ruleAt_102 (by decide) ?_
                  refine dz_take 4 (ls' := [(0, .ref (b + 77)), (1, .int (dz_i p)), (2, .ref (b + (5 + 3 * j))), (3, .int (dz_i ((i : Int) + 1)))]) rfl ?_
                  first
                    | exact ih (i + 1) _ (by omega) (Or.inr ⟨j, hj, rfl, sp_best_f hb (fun z => hc93 (of_decide_eq_true z))⟩)
                    | exact ih (i + 1) _ (by omega) (Or.inr ⟨j, hj, rfl, (sp_best_n (by
                        intro h
                        unfold sp_mt at h
                        first
                          | exact hc40 (Bool.and_eq_true_iff.mp h).1
                          | (first | rw [decide_eq_true hc50] at h | rw [decide_eq_false hc50] at h) <;> (first | rw [decide_eq_true hc69] at h | rw [decide_eq_false hc69] at h) <;> exact hc80 (Bool.and_eq_true_iff.mp h).2)).trans hb⟩)
                · have hc93 : sp_ln (S j) < sp_ln (S i) ∨ (sp_ln (S i) = sp_ln (S j) ∧ sp_k (S i) < sp_k (S j)) := dz_bt hc93
                  refine dz_aload x.1 4 d_Translator_ruleAt_96 rfl ?_
                  refine dz_astore_n (ls' := [(0, .ref (b + 77)), (1, .int (dz_i p)), (2, .ref (b + (5 + 3 * i))), (3, .int (dz_i (i : Int))), (4, .ref (b + (5 + 3 * i)))]) x.1 d_Translator_ruleAt_98 rfl hN (by decide) rfl ?_
                  refine dz_iinc (z := (i : Int) + 1) (ls' := [(0, .ref (b + 77)), (1, .int (dz_i p)), (2, .ref (b + (5 + 3 * i))), (3, .int (dz_i ((i : Int) + 1))), (4, .ref (b + (5 + 3 * i)))]) x.1 3 d_Translator_ruleAt_99 rfl hN (by decide) (by omega) rfl ?_
                  refine dz_goto (tgt := 4) x.1 d_Translator_ruleAt_102 (by decide) ?_
                  refine dz_take 4 (ls' := [(0, .ref (b + 77)), (1, .int (dz_i p)), (2, .ref (b + (5 + 3 * i))), (3, .int (dz_i ((i : Int) + 1)))]) rfl ?_
                  exact ih (i + 1) _ (by omega) (Or.inr ⟨i, by omega, rfl, sp_best_t hb hM (decide_eq_true hc93)⟩)
  show ly_V κ b sz I 0 [(0, .ref (b + 77)), (1, .int (dz_i p))] []
  refine dz_null x.1 d_Translator_ruleAt_0 ?_
  refine dz_astore_nN (ls' := [(0, .ref (b + 77)), (1, .int (dz_i p)), (2, .null)]) x.1 d_Translator_ruleAt_1 rfl hN (by decide) rfl ?_
  refine dz_iconst x.1 d_Translator_ruleAt_2 ?_
  refine dz_istore_n (ls' := [(0, .ref (b + 77)), (1, .int (dz_i p)), (2, .null), (3, .int (dz_i 0))]) x.1 d_Translator_ruleAt_3 rfl hN (by decide) rfl ?_
  exact loop c 0 _ (by omega) (Or.inl ⟨rfl, rfl⟩)
