/-! pure helpers of the specification: runs, tests of all, texts, frames -/
/-- the first place from i on (at most k further) at which p fails -/
def sp_run (p : Int → Bool) (i : Int) : Nat → Int
  | 0 => i
  | k + 1 => if p i = true then sp_run p (i + 1) k else i
theorem sp_run_spec (p : Int → Bool) (k : Nat) : ∀ i : Int, i ≤ sp_run p i k ∧ sp_run p i k ≤ i + (k : Int) ∧ (∀ j : Int, i ≤ j → j < sp_run p i k → p j = true) ∧ (sp_run p i k = i + (k : Int) ∨ p (sp_run p i k) = false) := by
  induction k with
  | zero => intro i; refine ⟨Int.le_refl _, by show i ≤ _; omega, fun j h1 h2 => ?_, Or.inl (by show i = _; omega)⟩; have : j < i := h2; omega
  | succ k ih =>
    intro i
    by_cases hp : p i = true
    · obtain ⟨h1, h2, h3, h4⟩ := ih (i + 1)
      have e : sp_run p i (k + 1) = sp_run p (i + 1) k := by simp only [sp_run]; rw [if_pos hp]
      rw [e]
      refine ⟨by omega, by omega, fun j h5 h6 => ?_, ?_⟩
      · by_cases ej : j = i
        · rw [ej]; exact hp
        · exact h3 j (by omega) h6
      · rcases h4 with h4 | h4
        · left; omega
        · right; exact h4
    · have e : sp_run p i (k + 1) = i := by simp only [sp_run]; rw [if_neg hp]
      rw [e]
      refine ⟨by omega, by omega, fun j h5 h6 => by omega, Or.inr ?_⟩
      cases hq : p i with
      | true => exact absurd hq hp
      | false => rfl
theorem sp_run_eq {p : Int → Bool} {i e : Int} {k : Nat} (h1 : i ≤ e) (h2 : e ≤ i + (k : Int)) (h3 : ∀ j : Int, i ≤ j → j < e → p j = true) (h4 : e = i + (k : Int) ∨ p e = false) : sp_run p i k = e := by
  obtain ⟨g1, g2, g3, g4⟩ := sp_run_spec p k i
  by_cases c1 : sp_run p i k < e
  · rcases g4 with g4 | g4
    · omega
    · rw [h3 _ g1 c1] at g4; cases g4
  · by_cases c2 : e < sp_run p i k
    · rcases h4 with h4 | h4
      · omega
      · rw [g3 _ h1 c2] at h4; cases h4
    · omega
/-- p holds at 0 .. n - 1 -/
def sp_all (p : Int → Bool) : Nat → Bool
  | 0 => true
  | k + 1 => sp_all p k && p k
theorem sp_all_t {p : Int → Bool} {n : Nat} (h : ∀ j : Int, 0 ≤ j → j < n → p j = true) : sp_all p n = true := by
  induction n with
  | zero => rfl
  | succ k ih =>
    simp only [sp_all, Bool.and_eq_true]
    exact ⟨ih (fun j h1 h2 => h j h1 (by omega)), h k (by omega) (by omega)⟩
theorem sp_all_f {p : Int → Bool} {n : Nat} {j : Int} (h1 : 0 ≤ j) (h2 : j < n) (h : p j = false) : sp_all p n = false := by
  induction n with
  | zero => omega
  | succ k ih =>
    simp only [sp_all, Bool.and_eq_false_iff]
    by_cases e : j = (k : Int)
    · right; rw [← e]; exact h
    · left; exact ih (by omega)
theorem sp_all_iff {p : Int → Bool} {n : Nat} : sp_all p n = true ↔ ∀ j : Int, 0 ≤ j → j < n → p j = true := by
  constructor
  · intro h j h1 h2
    cases hp : p j with
    | true => rfl
    | false => rw [sp_all_f h1 h2 hp] at h; cases h
  · exact sp_all_t
theorem sp_all_congr {p q : Int → Bool} {n : Nat} (h : ∀ j : Int, 0 ≤ j → j < n → p j = q j) : sp_all p n = sp_all q n := by
  cases hq : sp_all q n with
  | true => exact sp_all_t (fun j h1 h2 => by rw [h j h1 h2]; exact sp_all_iff.mp hq j h1 h2)
  | false =>
    cases hp : sp_all p n with
    | false => rfl
    | true => rw [sp_all_t (fun j h1 h2 => by rw [← h j h1 h2]; exact sp_all_iff.mp hp j h1 h2)] at hq; cases hq
theorem sp_bi {P : Prop} [Decidable P] {B : Bool} (h : B = decide P) : (if B = true then (1 : Int) else 0) = if P then 1 else 0 := by
  subst h
  by_cases hp : P
  · rw [if_pos hp, if_pos (by simp [hp])]
  · rw [if_neg hp, if_neg (by simp [hp])]
/-- the text that is typed: n characters, seen as g -/
def sp_T (b : Nat) (J : dz_Hp) (n : Int) (g : Int → Int) : Prop := J (b + 1) 1 = n ∧ sp_ok (J (b + 2)) n ∧ sp_at (J (b + 2)) n = g
theorem sp_T.fr {b : Nat} {I J : dz_Hp} {n : Int} {g : Int → Int} (h : sp_T b I n g) (h1 : J (b + 1) = I (b + 1)) (h2 : J (b + 2) = I (b + 2)) : sp_T b J n g := by
  unfold sp_T; rw [h1, h2]; exact h
theorem sp_T.rng {b : Nat} {I : dz_Hp} {n : Int} {g : Int → Int} (h : sp_T b I n g) (i : Int) : 0 ≤ g i ∧ g i ≤ 126 := by
  rw [← h.2.2]; exact sp_at_rng h.2.1 i
theorem sp_T.nn {b : Nat} {I : dz_Hp} {n : Int} {g : Int → Int} (h : sp_T b I n g) : 0 ≤ n ∧ n ≤ 80 := ⟨h.2.1.1, h.2.1.2.1⟩
theorem sp_T.out {b : Nat} {I : dz_Hp} {n : Int} {g : Int → Int} (h : sp_T b I n g) {i : Int} (hi : i < 0 ∨ n ≤ i) : g i = 0 := by
  rw [← h.2.2]; unfold sp_at; rw [if_neg (by omega)]
theorem sp_T.ins {b : Nat} {I : dz_Hp} {n : Int} {g : Int → Int} (h : sp_T b I n g) {i : Int} (hi : 0 ≤ i ∧ i < n) : g i = I (b + 2) i ∧ 32 ≤ g i ∧ g i ≤ 126 := by
  have e : g i = I (b + 2) i := by rw [← h.2.2]; unfold sp_at; rw [if_pos (by omega)]
  have := h.2.1.2.2 i hi.1 hi.2
  omega
theorem c_chAt (l : Launch) (D : va_G) (Dt : Nat → ClassId) (b sz : Nat) (I : dz_Hp) (n : Int) (g : Int → Int) (h : sp_T b I n g) (i : Int) (hi : -2147483648 ≤ i ∧ i < 2147483648) : ly_M l D Dt b sz y_Typed_characterAt b_Typed_characterAt 2 (some .char) 1 [.ref (b + 1), .int (dz_i i)] I (fun v I' => v = some (.int (dz_i (g i))) ∧ I' = I) := by
  have := c_Typed_characterAt l D Dt b sz I n h.1 h.2.1 i hi
  rw [h.2.2] at this
  exact this
/-- nothing but the cells of P has changed -/
def sp_fr (I J : dz_Hp) (P : Nat → Prop) : Prop := ∀ q : Nat, ¬ P q → J q = I q
theorem sp_fr.rf {I : dz_Hp} {P : Nat → Prop} : sp_fr I I P := fun _ _ => rfl
theorem sp_fr.up {I J : dz_Hp} {P : Nat → Prop} (h : sp_fr I J P) {q : Nat} {k v : Int} (hq : P q) : sp_fr I (dz_up J q k v) P := fun q' h' => by
  by_cases e : q' = q
  · subst e; exact absurd hq h'
  · rw [dz_up_n _ _ _ e]; exact h q' h'
theorem sp_fr.tr {I J K : dz_Hp} {P Q : Nat → Prop} (h1 : sp_fr I J P) (h2 : sp_fr J K Q) (hPQ : ∀ q, Q q → P q) : sp_fr I K P := fun q hq => (h2 q (fun h => hq (hPQ q h))).trans (h1 q hq)
theorem sp_fr.mono {I J : dz_Hp} {P Q : Nat → Prop} (h : sp_fr I J P) (hPQ : ∀ q, P q → Q q) : sp_fr I J Q := fun q hq => h q (fun h' => hq (hPQ q h'))
theorem dz_take {κ : dz_Kx} {cells slots sz : Nat} {sk : dz_Sk} {rf : dz_Rf} {I : dz_Hp} {pc : Nat} {ls ls' : List (Nat × Value)} {st : List Value} (j : Nat) (h : ls.take j = ls') (kk : dz_V κ cells slots sz sk rf I pc ls' st) : dz_V κ cells slots sz sk rf I pc ls st := by
  subst h
  obtain ⟨p, l, e, R, s, m, args, below, meth, c, Q, D, Dt, A, nL⟩ := κ
  intro H locs la hz hW hsA hS hc hl
  exact kk H locs la hz hW hsA hS (fun q hq => hc q (List.mem_of_mem_take hq)) ⟨hl.1, hl.2.1, fun q hq => hl.2.2 q (List.mem_of_mem_take hq)⟩
theorem dz_Met_weak {l : Launch} {y : MethodName} {ws : List Cond} {rm : Room} {Pc : Array Value → State → Prop} {Qc Qc' : Array Value → State → Outcome → State → Prop} {mc ms : Nat} {free : Addr → Prop} (h : Met l y ws rm Pc Qc mc ms free) (hq : ∀ a st o t, Qc a st o t → Qc' a st o t) : Met l y ws rm Pc Qc' mc ms free := by
  intro p e h1 h2 h3 s m args below h4 h5 h6 h7
  obtain ⟨n, o, a1, a2, a3, a4, a5⟩ := h p e h1 h2 h3 s m args below h4 h5 h6 h7
  exact ⟨n, o, a1, a2, a3, hq _ _ _ _ a4, a5⟩
theorem ly_weak {l : Launch} {D : va_G} {Dt : Nat → ClassId} {b sz : Nat} {y : MethodName} {cc : ByteArray} {nL : Nat} {ret : Option FieldType} {d : Nat} {av : List Value} {I : dz_Hp} {post post' : Option Value → dz_Hp → Prop} (h : ly_M l D Dt b sz y cc nL ret d av I post) (hp : ∀ v I', post v I' → post' v I') : ly_M l D Dt b sz y cc nL ret d av I post' := by
  unfold ly_M dz_C at *
  exact dz_Met_weak h (fun a st oc t h9 => ⟨by
    obtain ⟨⟨v, sz', sk', rf', I', h1, ⟨e1, e2, e3, h2⟩, h3⟩, h4⟩ := h9
    exact ⟨v, sz', sk', rf', I', h1, ⟨e1, e2, e3, hp v I' h2⟩, h3⟩, h9.2⟩)
