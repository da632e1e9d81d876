/-! how a block is laid out: lines of cells -/
def sp_ind (k n : Int) : Int := if k = 0 then (if n = 0 then 2 else 0) else if k = 2 ∧ 0 < n then 4 else 0
theorem sp_ind_rng (k n : Int) : 0 ≤ sp_ind k n ∧ sp_ind k n ≤ 4 := by unfold sp_ind; (repeat' split) <;> omega
/-- closed lines and the line that is begun -/
abbrev sp_Ls : Type := List (List Int) × List Int
def sp_nl (s : sp_Ls) : List (List Int) := if s.2 = [] then s.1 else s.1 ++ [s.2]
def sp_st (W k : Int) (h : Int → Int) (j : Int) (s : sp_Ls) : sp_Ls :=
  if h j = 0 then s else
  if h (j - 1) = 0 then
    (if ¬ s.2 = [] ∧ (s.2.length : Int) + 1 + (sp_ep h j - j) ≤ W - sp_ind k (s.1.length : Int) then (s.1, s.2 ++ [0, h j]) else (sp_nl s, [h j]))
  else (if (s.2.length : Int) < W - sp_ind k (s.1.length : Int) then (s.1, s.2 ++ [h j]) else (s.1 ++ [s.2], [h j]))
def sp_fd (W k : Int) (h : Int → Int) : Nat → sp_Ls
  | 0 => ([], [])
  | j + 1 => sp_st W k h (j : Int) (sp_fd W k h j)
def sp_tot (s : sp_Ls) : Nat := s.1.flatten.length + s.2.length
theorem sp_ne_len : ∀ (C : List (List Int)), (∀ l ∈ C, l ≠ []) → C.length ≤ C.flatten.length := by
  intro C
  induction C with
  | nil => intro _; exact Nat.le_refl _
  | cons a t ih =>
    intro h
    have h1 := ih (fun l hl => h l (List.mem_cons_of_mem _ hl))
    have h2 : a ≠ [] := h a List.mem_cons_self
    have h3 : 0 < a.length := List.length_pos_iff.mpr h2
    simp only [List.length_cons, List.flatten_cons, List.length_append]
    omega
theorem sp_fd_inv {W k : Int} (hW : 10 ≤ W) (h : Int → Int) (h0 : h (-1) = 0) : ∀ j : Nat, sp_tot (sp_fd W k h j) ≤ j ∧ (h ((j : Int) - 1) = 0 → ¬ (sp_fd W k h j).2 = [] → sp_tot (sp_fd W k h j) + 1 ≤ j) ∧ (∀ l ∈ (sp_fd W k h j).1, l ≠ []) ∧ ((sp_fd W k h j).2 = [] → (sp_fd W k h j).1 = []) ∧ (∀ (n : Nat) (r : List Int), (sp_fd W k h j).1[n]? = some r → (r.length : Int) ≤ W - sp_ind k n) ∧ ((sp_fd W k h j).2.length : Int) ≤ W - sp_ind k ((sp_fd W k h j).1.length : Int) ∧ (¬ h ((j : Int) - 1) = 0 → ¬ (sp_fd W k h j).2 = []) := by
  intro j
  induction j with
  | zero =>
    have := sp_ind_rng k 0
    refine ⟨by simp [sp_fd, sp_tot], fun _ h => absurd rfl h, fun l hl => by simp [sp_fd] at hl, fun _ => rfl, fun n r hr => by simp [sp_fd] at hr, by simp [sp_fd]; omega, fun h => absurd h0 h⟩
  | succ j ih =>
    obtain ⟨i1, i2, i3, i4, i5, i6, i7⟩ := ih
    have e : sp_fd W k h (j + 1) = sp_st W k h (j : Int) (sp_fd W k h j) := rfl
    generalize hs : sp_fd W k h j = s at *
    obtain ⟨C, r⟩ := s
    rw [e]
    rw [show ((j + 1 : Nat) : Int) - 1 = (j : Int) by omega]
    unfold sp_st
    simp only at i1 i2 i3 i4 i5 i6 i7 ⊢
    simp only [sp_tot] at i1 i2 ⊢
    by_cases c0 : h (j : Int) = 0
    · rw [if_pos c0]
      exact ⟨by simp only; omega, fun _ hr => by simp only at hr ⊢; omega, i3, i4, i5, i6, fun hn => absurd c0 hn⟩
    · rw [if_neg c0]
      have hone := sp_ind_rng k ((C.length : Int) + 1)
      have hnC : ∀ l ∈ sp_nl (C, r), l ≠ [] := by
        intro l hl
        unfold sp_nl at hl
        by_cases hr : r = []
        · rw [if_pos hr] at hl; exact i3 l hl
        · rw [if_neg hr] at hl
          rcases List.mem_append.mp hl with hl | hl
          · exact i3 l hl
          · have hl : l = r := by simpa using hl
            rw [hl]; exact hr
      by_cases c1 : h ((j : Int) - 1) = 0
      · rw [if_pos c1]
        by_cases c2 : ¬ r = [] ∧ (r.length : Int) + 1 + (sp_ep h j - j) ≤ W - sp_ind k (C.length : Int)
        · rw [if_pos c2]
          have := i2 c1 c2.1
          have he := (sp_run_spec (sp_nb h) 300 (j : Int))
          have he2 : (j : Int) < sp_ep h j := by
            by_cases q : (j : Int) < sp_ep h j
            · exact q
            · have q1 : (j : Int) ≤ sp_ep h j := he.1
              have q2 : sp_ep h j = j := by omega
              rcases he.2.2.2 with q3 | q3
              · change sp_ep h j = _ at q3; omega
              · change sp_nb h (sp_ep h j) = false at q3
                rw [q2] at q3; unfold sp_nb at q3
                exact absurd c0 (of_decide_eq_false q3)
          refine ⟨by simp only [List.flatten_append, List.flatten_cons, List.flatten_nil, List.length_append, List.length_cons, List.length_nil, List.append_nil]; omega, fun hz => absurd hz c0, i3, fun hr => by simp at hr, i5, by simp only [List.length_append, List.length_cons, List.length_nil]; omega, fun _ => by simp⟩
        · rw [if_neg c2]
          by_cases c3 : r = []
          · have hC := i4 c3
            subst c3 hC
            have h9 := sp_ind_rng k 0
            refine ⟨by simp [sp_nl], fun hz => absurd hz c0, fun l hl => by simp [sp_nl] at hl, fun hr => by simp at hr, fun n r hr => by simp [sp_nl] at hr, by simp [sp_nl]; omega, fun _ => by simp⟩
          · have e2 : sp_nl (C, r) = C ++ [r] := if_neg c3
            rw [e2] at hnC ⊢
            have h8 := i2 c1 c3
            refine ⟨by simp only [List.flatten_append, List.flatten_cons, List.flatten_nil, List.length_append, List.length_cons, List.length_nil, List.append_nil]; omega, fun hz => absurd hz c0, hnC, fun hr => by simp at hr, fun n r' hr => ?_, by simp only [List.length_append, List.length_cons, List.length_nil]; simp; omega, fun _ => by simp⟩
            by_cases q : n < C.length
            · rw [List.getElem?_append_left q] at hr; exact i5 n r' hr
            · rw [List.getElem?_append_right (by omega)] at hr
              by_cases q2 : n - C.length = 0
              · rw [q2] at hr; simp at hr; rw [← hr, show (n : Int) = (C.length : Int) by omega]; exact i6
              · rw [List.getElem?_eq_none (by simp; omega)] at hr; cases hr
      · rw [if_neg c1]
        have hr0 := i7 c1
        by_cases c2 : (r.length : Int) < W - sp_ind k (C.length : Int)
        · rw [if_pos c2]
          refine ⟨by simp only [List.flatten_append, List.flatten_cons, List.flatten_nil, List.length_append, List.length_cons, List.length_nil, List.append_nil]; omega, fun hz => absurd hz c0, i3, fun hr => by simp at hr, i5, by simp only [List.length_append, List.length_cons, List.length_nil]; omega, fun _ => by simp⟩
        · rw [if_neg c2]
          have e2 : sp_nl (C, r) = C ++ [r] := if_neg hr0
          rw [e2] at hnC
          refine ⟨by simp only [List.flatten_append, List.flatten_cons, List.flatten_nil, List.length_append, List.length_cons, List.length_nil, List.append_nil]; omega, fun hz => absurd hz c0, hnC, fun hr => by simp at hr, fun n r' hr => ?_, by simp only [List.length_append, List.length_cons, List.length_nil]; simp; omega, fun _ => by simp⟩
          by_cases q : n < C.length
          · rw [List.getElem?_append_left q] at hr; exact i5 n r' hr
          · rw [List.getElem?_append_right (by omega)] at hr
            by_cases q2 : n - C.length = 0
            · rw [q2] at hr; simp at hr; rw [← hr, show (n : Int) = (C.length : Int) by omega]; exact i6
            · rw [List.getElem?_eq_none (by simp; omega)] at hr; cases hr
/-- the lines of a block in the class's heap -/
def sp_L (b i : Nat) (J : dz_Hp) (L : List (List Int)) : Prop := J (b + (82 + 4 * i)) 6 = (L.length : Int) ∧ J (b + (82 + 4 * i)) 4 = (L.flatten.length : Int) ∧ (∀ n : Nat, n < L.length → J (b + (85 + 4 * i)) (n : Int) = ((L.take n).flatten.length : Int)) ∧ ∀ (j : Nat) (e : Int), L.flatten[j]? = some e → J (b + (84 + 4 * i)) (j : Int) = e
theorem sp_L.fr {b i : Nat} {I J : dz_Hp} {L : List (List Int)} (H : sp_L b i I L) (h1 : J (b + (82 + 4 * i)) 6 = I (b + (82 + 4 * i)) 6) (h2 : J (b + (82 + 4 * i)) 4 = I (b + (82 + 4 * i)) 4) (h3 : J (b + (84 + 4 * i)) = I (b + (84 + 4 * i))) (h4 : J (b + (85 + 4 * i)) = I (b + (85 + 4 * i))) : sp_L b i J L := by unfold sp_L; rw [h1, h2, h3, h4]; exact H
theorem sp_L.line {b i : Nat} {I : dz_Hp} {L : List (List Int)} (H : sp_L b i I L) : sp_L b i (dz_up (dz_up I (b + (85 + 4 * i)) (L.length : Int) (L.flatten.length : Int)) (b + (82 + 4 * i)) 6 ((L.length : Int) + 1)) (L ++ [[]]) := by
  obtain ⟨h1, h2, h3, h4⟩ := H
  refine ⟨by rw [dz_up_s]; simp, by rw [dz_up_k _ _ _ (by decide), dz_up_n _ _ _ (by omega), h2]; simp, fun n hn => ?_, fun j e he => ?_⟩
  · rw [dz_up_n _ _ _ (by omega)]
    simp at hn
    by_cases c : n = L.length
    · subst c; rw [dz_up_s]; simp
    · rw [dz_up_k _ _ _ (by omega), h3 n (by omega), List.take_append_of_le_length (by omega)]
  · rw [dz_up_n _ _ _ (by omega), dz_up_n _ _ _ (by omega)]
    simp at he
    exact h4 j e (by simpa using he)
theorem sp_L.cell {b i : Nat} {I : dz_Hp} {C : List (List Int)} {r : List Int} {v : Int} (H : sp_L b i I (C ++ [r])) : sp_L b i (dz_up (dz_up I (b + (84 + 4 * i)) ((C ++ [r]).flatten.length : Int) v) (b + (82 + 4 * i)) 4 (((C ++ [r]).flatten.length : Int) + 1)) (C ++ [r ++ [v]]) := by
  obtain ⟨h1, h2, h3, h4⟩ := H
  have ef : (C ++ [r ++ [v]]).flatten = (C ++ [r]).flatten ++ [v] := by simp
  refine ⟨by rw [dz_up_k _ _ _ (by decide), dz_up_n _ _ _ (by omega), h1]; simp, by rw [dz_up_s, ef, List.length_append]; rfl, fun n hn => ?_, fun j e he => ?_⟩
  · rw [dz_up_n _ _ _ (by omega), dz_up_n _ _ _ (by omega), h3 n (by simp at hn ⊢; omega)]
    have hn2 : n ≤ C.length := by simp at hn; omega
    rw [List.take_append_of_le_length hn2, List.take_append_of_le_length hn2]
  · rw [dz_up_n _ _ _ (by omega)]
    rw [ef] at he
    by_cases c : j < (C ++ [r]).flatten.length
    · rw [List.getElem?_append_left c] at he
      rw [dz_up_k _ _ _ (by omega)]
      exact h4 j e he
    · rw [List.getElem?_append_right (by omega)] at he
      have hj : j - (C ++ [r]).flatten.length = 0 := by
        by_cases c2 : j - (C ++ [r]).flatten.length = 0
        · exact c2
        · rw [List.getElem?_eq_none (by simp at c2 ⊢; omega)] at he; cases he
      rw [hj] at he
      have he : v = e := by simpa using he
      rw [← he, show (j : Int) = ((C ++ [r]).flatten.length : Int) by omega, dz_up_s]
