/-! pure bounds: the characters that a block gives -/
def sp_hh (m : Int) (h : Int → Int) : Prop := (0 ≤ m ∧ m ≤ 200) ∧ (∀ j : Int, j < 0 ∨ m ≤ j → h j = 0) ∧ ∀ j : Int, 0 ≤ h j ∧ h j < 64
theorem sp_B.hh {b i : Nat} {J : dz_Hp} {m : Int} {h : Int → Int} (H : sp_B b i J m h) : sp_hh m h := ⟨H.2.1, fun _ hj => H.out hj, fun j => H.rng j⟩
theorem sp_hh_ep {m : Int} {h : Int → Int} (H : sp_hh m h) {q : Int} (hq : 0 ≤ q ∧ q ≤ m) : q ≤ sp_ep h q ∧ sp_ep h q ≤ m ∧ (¬ h q = 0 → sp_ep h q = sp_ep h (q + 1) ∧ q < sp_ep h q) ∧ (h q = 0 → sp_ep h q = q) ∧ h (sp_ep h q) = 0 ∧ ∀ j, q ≤ j → j < sp_ep h q → ¬ h j = 0 := by
  have hm := H.1
  obtain ⟨r1, r2, r3, r4⟩ := sp_run_spec (sp_nb h) 300 q
  have h5 : sp_ep h q ≤ m := by
    by_cases c : sp_ep h q ≤ m
    · exact c
    · have := r3 m hq.2 (by show m < sp_ep h q; omega)
      exact absurd (H.2.1 m (Or.inr (Int.le_refl _))) (of_decide_eq_true this)
  have h6 : h (sp_ep h q) = 0 := by
    rcases r4 with r4 | r4
    · change sp_ep h q = _ at r4; omega
    · have := of_decide_eq_false r4
      by_cases c : h (sp_ep h q) = 0
      · exact c
      · exact absurd c this
  refine ⟨r1, h5, fun hn => ?_, fun hz => sp_ep_0 hz, h6, fun j j1 j2 => of_decide_eq_true (r3 j j1 j2)⟩
  have hqm : q < m := by
    by_cases c : q < m
    · exact c
    · exact absurd (H.2.1 q (Or.inr (by omega))) hn
  have := sp_ep_n (h := h) (q := q) (m := m) hn (by omega) (fun j hj => H.2.1 j (Or.inr hj))
  exact ⟨this.1, this.2.1⟩
theorem sp_cs_ep {m : Int} {h : Int → Int} (H : sp_hh m h) {f p : Int} (hf : 0 ≤ f) (hp : f ≤ p ∧ p ≤ sp_ep h f) (hfm : f ≤ m) : p ≤ sp_cs h p ∧ sp_cs h p ≤ sp_ep h f ∧ (h p = 32 → p < sp_cs h p) ∧ (∀ j, p ≤ j → j < sp_cs h p → h j = 32) ∧ (sp_cs h p < sp_ep h f → ¬ h (sp_cs h p) = 32) := by
  obtain ⟨e1, e2, e3, e4, e5, e6⟩ := sp_hh_ep H (q := f) (by omega)
  obtain ⟨r1, r2, r3, r4⟩ := sp_run_spec (sp_is32 h) 300 p
  change p ≤ sp_cs h p at r1
  have hm := H.1
  have h5 : sp_cs h p ≤ sp_ep h f := by
    by_cases c : sp_cs h p ≤ sp_ep h f
    · exact c
    · have h9 := of_decide_eq_true (r3 (sp_ep h f) hp.2 (by show _ < sp_cs h p; omega))
      omega
  have h7 : ¬ h (sp_cs h p) = 32 := by
    rcases r4 with r4 | r4
    · change sp_cs h p = _ at r4; omega
    · exact of_decide_eq_false r4
  refine ⟨r1, h5, fun h32 => ?_, fun j j1 j2 => of_decide_eq_true (r3 j j1 j2), fun _ => h7⟩
  by_cases c : p < sp_cs h p
  · exact c
  · have : sp_cs h p = p := by omega
    rw [this] at h7; exact absurd h32 h7
theorem sp_mcs_in {m : Int} {h : Int → Int} (H : sp_hh m h) {S : Nat → sp_Ru} {bg f p : Int} {r : Nat} (hw : sp_rwf (S r)) (hf : 0 ≤ f ∧ f ≤ m) (hp : f ≤ p ∧ p < sp_ep h f) (hm : sp_mcs h S bg (sp_ep h f) p r = true) : p + sp_cn (S r) ≤ sp_ep h f := by
  by_cases c : p + sp_cn (S r) ≤ sp_ep h f
  · exact c
  · exfalso
    unfold sp_mcs at hm
    have h1 := (Bool.and_eq_true_iff.mp hm).1
    have h2 := sp_all_iff.mp h1 (sp_ep h f - p) (by omega) (by omega)
    have h3 := of_decide_eq_true h2
    have h4 := hw.2.2.2.2 (sp_ep h f - p) (by omega) (by omega)
    have h5 := (sp_hh_ep H (q := f) hf).2.2.2.2.1
    rw [show p + (sp_ep h f - p) = sp_ep h f by omega] at h3
    omega
theorem sp_rd_b {m : Int} {h : Int → Int} (H : sp_hh m h) {c : Nat} {S : Nat → sp_Ru} (hw : sp_wfs c S) {bg f p : Int} {nu nx rs : Bool} (hf : 0 ≤ f ∧ f ≤ m) (hp : f ≤ p ∧ p < sp_ep h f) : 1 ≤ (sp_rd h c S bg (sp_ep h f) nu nx rs p).2.1 ∧ p + (sp_rd h c S bg (sp_ep h f) nu nx rs p).2.1 ≤ sp_ep h f ∧ ((sp_rd h c S bg (sp_ep h f) nu nx rs p).1.length : Int) ≤ 6 * (sp_rd h c S bg (sp_ep h f) nu nx rs p).2.1 := by
  obtain ⟨a1, a2, a3⟩ := sp_rd_adv (h := h) (c := c) (S := S) (bg := bg) (e := sp_ep h f) (p := p) (nu := nu) (nx := nx) (rs := rs) hw
  refine ⟨a1, ?_, a3⟩
  have hcs := sp_cs_ep H hf.1 (p := p) (f := f) (by omega) hf.2
  clear a1 a2 a3
  unfold sp_rd
  split
  · simp only; omega
  · split
    · simp only; omega
    · split
      · simp only; omega
      · split
        · split
          · simp only; omega
          · simp only; omega
        · split
          · simp only; omega
          · rename_i r hb
            obtain ⟨b1, b2⟩ := sp_best_lt _ _ hb
            exact sp_mcs_in H (hw r b1) hf hp b2
theorem sp_pl_b {m : Int} {h : Int → Int} (H : sp_hh m h) {c : Nat} {S : Nat → sp_Ru} (hw : sp_wfs c S) {bg f : Int} (hf : 0 ≤ f ∧ f ≤ m) : ∀ (k : Nat) (p : Int) (nu nx rs : Bool), f ≤ p → p ≤ sp_ep h f → ((sp_pl h c S bg (sp_ep h f) k p nu nx rs).length : Int) ≤ 6 * (sp_ep h f - p) := by
  intro k
  induction k with
  | zero => intro p nu nx rs h1 h2; simp only [sp_pl, List.length_nil]; omega
  | succ k ih =>
    intro p nu nx rs h1 h2
    simp only [sp_pl]
    by_cases hc : p < sp_ep h f
    · rw [if_pos hc, List.length_append]
      obtain ⟨b1, b2, b3⟩ := sp_rd_b H hw (bg := bg) (nu := nu) (nx := nx) (rs := rs) hf ⟨h1, hc⟩
      have := ih (p + (sp_rd h c S bg (sp_ep h f) nu nx rs p).2.1) (sp_rd h c S bg (sp_ep h f) nu nx rs p).2.2.1 (sp_rd h c S bg (sp_ep h f) nu nx rs p).2.2.2.1 (sp_rd h c S bg (sp_ep h f) nu nx rs p).2.2.2.2 (by omega) (by omega)
      omega
    · rw [if_neg hc, List.length_nil]; omega
theorem sp_bk_b {m : Int} {h : Int → Int} (H : sp_hh m h) {c : Nat} {S : Nat → sp_Ru} (hw : sp_wfs c S) : ∀ (k : Nat) (i : Int), 0 ≤ i → i + (k : Int) = m → ((sp_bk h c S k i).length : Int) ≤ 6 * (m - (if ¬ h (i - 1) = 0 then sp_ep h i else i)) := by
  intro k
  have hm := H.1
  induction k with
  | zero =>
    intro i h1 h2
    have e : sp_ep h i = i := sp_ep_0 (H.2.1 i (Or.inr (by omega)))
    rw [e]
    simp only [sp_bk, List.length_nil]
    split <;> omega
  | succ k ih =>
    intro i h1 h2
    have i1 := ih (i + 1) (by omega) (by omega)
    rw [show i + 1 - 1 = i by omega] at i1
    obtain ⟨e1, e2, e3, e4, e5, e6⟩ := sp_hh_ep H (q := i) (by omega)
    simp only [sp_bk, List.length_append]
    by_cases hz : h i = 0
    · rw [if_pos hz, e4 hz]
      rw [if_neg (fun z => z hz)] at i1
      simp only [List.length_cons, List.length_nil]
      split <;> omega
    · rw [if_neg hz]
      rw [if_pos hz, ← (e3 hz).1] at i1
      by_cases hp : h (i - 1) = 0
      · rw [if_pos hp, if_neg (fun z => z hp)]
        have := sp_pl_b H hw (bg := sp_cs h i) (f := i) (by omega) 300 i false false false (by omega) e1
        unfold sp_pi
        omega
      · rw [if_neg hp, if_pos hp, List.length_nil]
        omega
theorem sp_bk_len {m : Int} {h : Int → Int} (H : sp_hh m h) {c : Nat} {S : Nat → sp_Ru} (hw : sp_wfs c S) : (sp_bk h c S m.toNat 0).length ≤ 1200 := by
  have hm := H.1
  have := sp_bk_b H hw m.toNat 0 (by omega) (by omega)
  rw [if_neg (fun z => z (H.2.1 (0 - 1) (Or.inl (by omega))))] at this
  omega
