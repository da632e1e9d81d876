/-! pure bounds: the cells of a text, the characters of a block -/
def sp_tx (n : Int) (g : Int → Int) : Prop := (0 ≤ n ∧ n ≤ 80) ∧ (∀ j : Int, j < 0 ∨ n ≤ j → g j = 0) ∧ ∀ j : Int, 0 ≤ j ∧ j < n → 32 ≤ g j ∧ g j ≤ 126
theorem sp_T.tx {b : Nat} {I : dz_Hp} {n : Int} {g : Int → Int} (h : sp_T b I n g) : sp_tx n g := ⟨h.nn, fun j hj => h.out hj, fun j hj => (h.ins hj).2⟩
def sp_wfs (c : Nat) (S : Nat → sp_Ru) : Prop := ∀ r, r < c → sp_rwf (S r)
theorem sp_isL_iff {g : Int → Int} {j : Int} : sp_isL g j = true ↔ ((97 ≤ g j ∧ g j ≤ 122) ∨ (65 ≤ g j ∧ g j ≤ 90)) := by unfold sp_isL; exact decide_eq_true_iff
theorem sp_hl_L {g : Int → Int} {p : Int} {a : Bool} {u : sp_Ru} (hw : sp_rwf u) {j : Int} (hj : 0 ≤ j ∧ j < sp_ln u) (h : sp_hl g p a u j = true) : sp_isL g (p + j) = true := by
  unfold sp_hl at h
  have h1 := of_decide_eq_true h
  have h2 := hw.2.2.2.1 j hj.1 hj.2
  rw [sp_isL_iff]
  split at h1
  · unfold sp_small at h1; split at h1 <;> omega
  · omega
theorem sp_mt_in {g : Int → Int} {S : Nat → sp_Ru} {bg e : Int} {a : Bool} {p : Int} {r : Nat} (hw : sp_rwf (S r)) (he : e = sp_we g bg) (hp : bg ≤ p ∧ p < e) (hb : e < bg + 100) (h : sp_mt g S bg e a p r = true) : p + sp_ln (S r) ≤ e := by
  by_cases c : p + sp_ln (S r) ≤ e
  · exact c
  · exfalso
    unfold sp_mt at h
    have h1 := (Bool.and_eq_true_iff.mp h).1
    have h2 := sp_all_iff.mp h1 (e - p) (by omega) (by omega)
    have h3 := sp_hl_L hw (by omega) h2
    rw [show p + (e - p) = e by omega] at h3
    obtain ⟨r1, r2, r3, r4⟩ := sp_run_spec (sp_isL g) 100 bg
    change sp_we g bg = _ ∨ _ at r4
    rcases r4 with r4 | r4
    · omega
    · change sp_isL g (sp_we g bg) = false at r4
      rw [← he, h3] at r4; cases r4
theorem sp_cl_mem {u : sp_Ru} {p : Int} : ∀ (k : Nat) (x : Int × Int), x ∈ sp_cl u p k → ∃ j : Nat, j < k ∧ x = (sp_ce u (j : Int), p) := by
  intro k
  induction k with
  | zero => intro x h; simp [sp_cl] at h
  | succ k ih =>
    intro x h
    simp only [sp_cl] at h
    rcases List.mem_append.mp h with h | h
    · obtain ⟨j, h1, h2⟩ := ih x h; exact ⟨j, by omega, h2⟩
    · have h : x = (sp_ce u (k : Int), p) := by simpa using h
      exact ⟨k, by omega, h⟩
theorem sp_sgn_len (g : Int → Int) (a : Bool) (p : Int) : (sp_sgn g a p).length ≤ 1 ∧ (a = true → (sp_sgn g a p).length = 0) ∧ (97 ≤ g p → (sp_sgn g a p).length = 0) := by
  unfold sp_sgn
  split
  · rename_i h
    exact ⟨by simp, fun ha => absurd ha h.1, fun hg => by omega⟩
  · simp
/-- a step's cells: their number and what they are -/
theorem sp_step_b {g : Int → Int} {c : Nat} {S : Nat → sp_Ru} {bg e : Int} {a : Bool} {p : Int} (hw : sp_wfs c S) (he : e = sp_we g bg) (hp : bg ≤ p ∧ p < e) (hb : e < bg + 100) :
    1 ≤ (sp_step g c S bg e a p).2 ∧ p + (sp_step g c S bg e a p).2 ≤ e ∧ (2 * ((sp_step g c S bg e a p).1.length : Int) + 1 ≤ 5 * (sp_step g c S bg e a p).2) ∧ (a = true ∨ 97 ≤ g p → 2 * ((sp_step g c S bg e a p).1.length : Int) + 3 ≤ 5 * (sp_step g c S bg e a p).2 ∧ ((sp_step g c S bg e a p).2 = 1 ∨ 2 * ((sp_step g c S bg e a p).1.length : Int) + 4 ≤ 5 * (sp_step g c S bg e a p).2)) ∧ ∀ x ∈ (sp_step g c S bg e a p).1, (0 ≤ x.1 ∧ x.1 < 64) ∧ x.2 = p := by
  obtain ⟨s1, s2, s3⟩ := sp_sgn_len g a p
  have hsm : ∀ x ∈ sp_sgn g a p, (0 ≤ x.1 ∧ x.1 < 64) ∧ x.2 = p := by
    intro x hx
    unfold sp_sgn at hx
    split at hx
    · have hx : x = (32, p) := by simpa using hx
      rw [hx]; exact ⟨by simp, rfl⟩
    · simp at hx
  unfold sp_step
  split
  · simp only [List.length_append, List.length_cons, List.length_nil]
    refine ⟨by omega, by omega, by omega, fun h => ?_, fun x hx => ?_⟩
    · rcases h with h | h
      · have := s2 h; exact ⟨by omega, Or.inl trivial⟩
      · have := s3 h; exact ⟨by omega, Or.inl trivial⟩
    · rcases List.mem_append.mp hx with hx | hx
      · exact hsm x hx
      · have hx : x = (sp_cell (g p), p) := by simpa using hx
        rw [hx]; exact ⟨sp_cell_rng _, rfl⟩
  · rename_i r hbst
    obtain ⟨b1, b2⟩ := sp_best_lt _ _ hbst
    have h1 := hw r b1
    have h2 := h1.2.2.1
    have h3 := h1.2.1
    have h4 := sp_mt_in h1 he hp hb b2
    simp only [List.length_append, sp_cl_len]
    refine ⟨by omega, h4, by omega, fun h => ?_, fun x hx => ?_⟩
    · rcases h with h | h
      · have := s2 h; omega
      · have := s3 h; omega
    · rcases List.mem_append.mp hx with hx | hx
      · exact hsm x hx
      · obtain ⟨j, j1, j2⟩ := sp_cl_mem _ x hx
        have := h1.2.2.2.2 (j : Int) (by omega) (by omega)
        rw [j2]; exact ⟨by omega, rfl⟩
theorem sp_wl_b {g : Int → Int} {c : Nat} {S : Nat → sp_Ru} {bg e : Int} {a : Bool} (hw : sp_wfs c S) (he : e = sp_we g bg) (hb : e < bg + 100) : ∀ (f : Nat) (p : Int), bg ≤ p → p ≤ e → 2 * ((sp_wl (sp_step g c S bg e a) e f p).length : Int) ≤ 5 * (e - p) ∧ (p < e → 2 * ((sp_wl (sp_step g c S bg e a) e f p).length : Int) + 1 ≤ 5 * (e - p)) ∧ (p < e → a = true ∨ 97 ≤ g p → 2 * ((sp_wl (sp_step g c S bg e a) e f p).length : Int) + 3 ≤ 5 * (e - p)) ∧ (p + 1 < e → a = true → 2 * ((sp_wl (sp_step g c S bg e a) e f p).length : Int) + 4 ≤ 5 * (e - p)) ∧ ∀ x ∈ sp_wl (sp_step g c S bg e a) e f p, (0 ≤ x.1 ∧ x.1 < 64) ∧ bg ≤ x.2 ∧ x.2 < e := by
  intro f
  induction f with
  | zero => intro p h1 h2; simp only [sp_wl, List.length_nil]; exact ⟨by omega, fun _ => by omega, fun _ _ => by omega, fun _ _ => by omega, fun x hx => by simp at hx⟩
  | succ f ih =>
    intro p h1 h2
    simp only [sp_wl]
    by_cases hc : p < e
    · rw [if_pos hc]
      obtain ⟨t1, t2, t3, t4, t5⟩ := sp_step_b (a := a) (p := p) hw he ⟨h1, hc⟩ hb
      obtain ⟨i1, i2, i3, i4, i5⟩ := ih (p + (sp_step g c S bg e a p).2) (by omega) (by omega)
      simp only [List.length_append]
      refine ⟨by omega, fun _ => by omega, fun _ ha => ?_, fun hp2 ha => ?_, fun x hx => ?_⟩
      · have := (t4 ha).1; omega
      · have t6 := t4 (Or.inl ha)
        rcases t6.2 with t7 | t7
        · have := i3 (by omega) (Or.inl ha); omega
        · omega
      · rcases List.mem_append.mp hx with hx | hx
        · have := t5 x hx; exact ⟨this.1, by omega, by omega⟩
        · exact i5 x hx
    · rw [if_neg hc]; simp only [List.length_nil]
      exact ⟨by omega, fun h => absurd h hc, fun h => absurd h hc, fun h => by omega, fun x hx => by simp at hx⟩
theorem sp_tx_we {n : Int} {g : Int → Int} (h : sp_tx n g) {q : Int} (hq : 0 ≤ q ∧ q ≤ n) : q ≤ sp_we g q ∧ sp_we g q ≤ n ∧ (sp_isL g q = true → sp_we g q = sp_we g (q + 1)) ∧ (sp_isL g q = false → sp_we g q = q) ∧ sp_isL g (sp_we g q) = false ∧ ∀ j, q ≤ j → j < sp_we g q → sp_isL g j = true := by
  have hn := h.1
  have hout : sp_isL g n = false := by
    unfold sp_isL; have := h.2.1 n (Or.inr (Int.le_refl _)); exact decide_eq_false (by omega)
  have key : ∀ q : Int, 0 ≤ q ∧ q ≤ n → q ≤ sp_we g q ∧ sp_we g q ≤ n ∧ sp_isL g (sp_we g q) = false ∧ ∀ j, q ≤ j → j < sp_we g q → sp_isL g j = true := by
    intro q hq
    obtain ⟨r1, r2, r3, r4⟩ := sp_run_spec (sp_isL g) 100 q
    have h5 : sp_we g q ≤ n := by
      by_cases c : sp_we g q ≤ n
      · exact c
      · have := r3 n hq.2 (by show n < sp_we g q; omega)
        rw [hout] at this; cases this
    refine ⟨r1, h5, ?_, r3⟩
    rcases r4 with r4 | r4
    · change sp_we g q = _ at r4; omega
    · exact r4
  obtain ⟨k1, k2, k3, k4⟩ := key q hq
  refine ⟨k1, k2, fun hL => ?_, fun hL => ?_, k3, k4⟩
  · have hqn : q < n := by
      by_cases c : q < n
      · exact c
      · have : q = n := by omega
        rw [this, hout] at hL; cases hL
    obtain ⟨m1, m2, m3, m4⟩ := key (q + 1) (by omega)
    refine sp_run_eq (by omega) (by omega) (fun j h1 h2 => ?_) (Or.inr m3)
    by_cases e : j = q
    · rw [e]; exact hL
    · exact m4 j (by omega) h2
  · exact sp_run_eq (by omega) (by omega) (fun j h1 h2 => by omega) (Or.inr hL)
theorem sp_wd_b {n : Int} {g : Int → Int} (h : sp_tx n g) {c : Nat} {S : Nat → sp_Ru} (hw : sp_wfs c S) {q : Int} (hq : 0 ≤ q ∧ q < n) (hL : sp_isL g q = true) : 2 * ((sp_wd g c S q).length : Int) ≤ 5 * (sp_we g q - q) ∧ (97 ≤ g q → 2 * ((sp_wd g c S q).length : Int) + 1 ≤ 5 * (sp_we g q - q)) ∧ ∀ x ∈ sp_wd g c S q, (0 ≤ x.1 ∧ x.1 < 64) ∧ q ≤ x.2 ∧ x.2 < sp_we g q := by
  obtain ⟨w1, w2, w3, w4, w5, w6⟩ := sp_tx_we h (q := q) (by omega)
  have hn := h.1
  have hlt : q < sp_we g q := by
    by_cases e : q = sp_we g q
    · rw [← e, hL] at w5; cases w5
    · omega
  obtain ⟨b1, b2, b3, b4, b5⟩ := sp_wl_b (g := g) (c := c) (S := S) (bg := q) (e := sp_we g q) (a := sp_wc g q (sp_we g q)) hw rfl (by omega) 100 q (by omega) (by omega)
  unfold sp_wd
  simp only [List.length_append]
  by_cases ha : sp_wc g q (sp_we g q) = true
  · have hlen : (sp_wp (sp_wc g q (sp_we g q)) q).length = 2 := by unfold sp_wp; rw [if_pos ha]; rfl
    have h2 : 2 ≤ sp_we g q - q := by
      unfold sp_wc at ha; exact of_decide_eq_true (Bool.and_eq_true_iff.mp ha).2
    have h4 := b4 (by omega) ha
    refine ⟨by omega, fun h97 => ?_, fun x hx => ?_⟩
    · exfalso
      have h5 := (Bool.and_eq_true_iff.mp ha).1
      have h6 := sp_all_iff.mp h5 0 (by omega) (by omega)
      have h7 := of_decide_eq_true h6
      rw [Int.add_zero] at h7; omega
    · rcases List.mem_append.mp hx with hx | hx
      · unfold sp_wp at hx; rw [if_pos ha] at hx
        have hx : x = (32, q) := by simpa using hx
        rw [hx]; exact ⟨by simp, by simp, hlt⟩
      · exact b5 x hx
  · have hlen : sp_wp (sp_wc g q (sp_we g q)) q = [] := by unfold sp_wp; rw [if_neg ha]
    rw [hlen]
    refine ⟨by simp only [List.length_nil]; omega, fun h97 => ?_, fun x hx => ?_⟩
    · have := b3 hlt (Or.inr h97); simp only [List.length_nil]; omega
    · exact b5 x (by simpa using hx)
theorem sp_tr_b {n : Int} {g : Int → Int} (h : sp_tx n g) {c : Nat} {S : Nat → sp_Ru} (hw : sp_wfs c S) : ∀ (k : Nat) (i : Int), 0 ≤ i → i + (k : Int) = n → 2 * ((sp_tr g c S k i).length : Int) ≤ 5 * (n - (if sp_isL g i = true ∧ sp_isL g (i - 1) = true then sp_we g i else i)) ∧ (97 ≤ g i ∧ g i ≤ 122 → ¬ sp_isL g (i - 1) = true → i < n → 2 * ((sp_tr g c S k i).length : Int) + 1 ≤ 5 * (n - i)) ∧ ∀ x ∈ sp_tr g c S k i, (0 ≤ x.1 ∧ x.1 < 64) ∧ 0 ≤ x.2 ∧ x.2 ≤ 80 := by
  intro k
  have hn := h.1
  induction k with
  | zero =>
    intro i h1 h2
    have hL : ¬ sp_isL g i = true := by rw [sp_isL_iff]; have := h.2.1 i (Or.inr (by omega)); omega
    rw [if_neg (fun z => hL z.1)]
    simp only [sp_tr, List.length_nil]
    exact ⟨by omega, fun _ _ _ => by omega, fun x hx => by simp at hx⟩
  | succ k ih =>
    intro i h1 h2
    obtain ⟨i1, i2, i3⟩ := ih (i + 1) (by omega) (by omega)
    rw [show i + 1 - 1 = i by omega] at i1 i2
    simp only [sp_tr]
    by_cases hL : sp_isL g i = true
    · obtain ⟨w1, w2, w3, w4, w5, w6⟩ := sp_tx_we h (q := i) (by omega)
      have w3 := w3 hL
      have hrest : 2 * ((sp_tr g c S k (i + 1)).length : Int) ≤ 5 * (n - sp_we g i) := by
        by_cases hL1 : sp_isL g (i + 1) = true
        · rw [if_pos ⟨hL1, hL⟩, ← w3] at i1; exact i1
        · rw [if_neg (fun z => hL1 z.1)] at i1
          have := (sp_tx_we h (q := i + 1) (by omega)).2.2.2.1 (by cases hq : sp_isL g (i + 1) with
            | true => exact absurd hq hL1
            | false => rfl)
          rw [w3, this]; exact i1
      rw [if_pos hL]
      by_cases hP : sp_isL g (i - 1) = true
      · rw [if_pos hP, if_pos ⟨hL, hP⟩]
        simp only [List.nil_append]
        exact ⟨hrest, fun _ hz _ => absurd hP hz, i3⟩
      · rw [if_neg hP, if_neg (fun z => hP z.2)]
        obtain ⟨d1, d2, d3⟩ := sp_wd_b h hw (q := i) (by omega) hL
        simp only [List.length_append]
        refine ⟨by omega, fun h97 _ _ => ?_, fun x hx => ?_⟩
        · have := d2 h97.1; omega
        · rcases List.mem_append.mp hx with hx | hx
          · have := d3 x hx; exact ⟨this.1, by omega, by omega⟩
          · exact i3 x hx
    · rw [if_neg hL, if_neg (fun z => hL z.1)]
      have hnL : ¬ (97 ≤ g i ∧ g i ≤ 122) := fun z => hL (by rw [sp_isL_iff]; exact Or.inl z)
      have hr1 : 2 * ((sp_tr g c S k (i + 1)).length : Int) ≤ 5 * (n - (i + 1)) := by
        rw [if_neg (fun z => hL z.2)] at i1; exact i1
      have l1 : (sp_s1 g i).length ≤ 1 := by unfold sp_s1; split <;> simp
      have m1 : ∀ x ∈ sp_s1 g i, x = (60, i) := by
        intro x hx; unfold sp_s1 at hx; split at hx
        · simpa using hx
        · simp at hx
      simp only [List.length_append, List.length_cons]
      refine ⟨?_, fun z => absurd z hnL, fun x hx => ?_⟩
      · unfold sp_s3
        split
        · rename_i hs
          have hi1 : i + 1 < n := by
            by_cases q : i + 1 < n
            · exact q
            · have := h.2.1 (i + 1) (Or.inr (by omega)); omega
          have := i2 ⟨hs.2.1, by omega⟩ hL hi1
          simp only [List.length_cons, List.length_nil]; omega
        · simp only [List.length_nil]; omega
      · rcases List.mem_append.mp hx with hx | hx
        · rcases List.mem_append.mp hx with hx | hx
          · rw [m1 x hx]; exact ⟨by simp, by simp; omega, by simp; omega⟩
          · rcases List.mem_cons.mp hx with hx | hx
            · rw [hx]; exact ⟨sp_cell_rng _, by simp; omega, by simp; omega⟩
            · unfold sp_s3 at hx; split at hx
              · have hx : x = (48, i + 1) := by simpa using hx
                rw [hx]; exact ⟨by simp, by simp; omega, by simp; omega⟩
              · simp at hx
        · exact i3 x hx
theorem sp_tr_len {n : Int} {g : Int → Int} (h : sp_tx n g) {c : Nat} {S : Nat → sp_Ru} (hw : sp_wfs c S) : (sp_tr g c S n.toNat 0).length ≤ 200 ∧ ∀ x ∈ sp_tr g c S n.toNat 0, (0 ≤ x.1 ∧ x.1 < 64) ∧ 0 ≤ x.2 ∧ x.2 ≤ 80 := by
  have hn := h.1
  obtain ⟨b1, -, b3⟩ := sp_tr_b h hw n.toNat 0 (by omega) (by omega)
  have hz : ¬ sp_isL g (0 - 1) = true := by rw [sp_isL_iff]; have := h.2.1 (0 - 1) (Or.inl (by omega)); omega
  rw [if_neg (fun z => hz z.2)] at b1
  exact ⟨by omega, b3⟩
