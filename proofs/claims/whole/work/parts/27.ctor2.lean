theorem dz_max {κ : dz_Kx} {cc : ByteArray} {own : String} {cells slots sz : Nat} {sk : dz_Sk} {rf : dz_Rf} {I : dz_Hp} {pc : Nat} {ls : List (Nat × Value)} {st : List Value} (am : dz_Am κ cc own) {d m0 s0 : Nat} (rm : dz_Rm κ d m0 s0) {index : Nat} (hg : Cond.methodLink own index Jvm.Lib.Math.max.name ∈ dz_GW ∧ Cond.static Jvm.Lib.Math.max.name ∈ dz_GW ∧ Cond.initialized "java/lang/Math" ∈ dz_GW ∧ Cond.code Jvm.Lib.Math.max.name Jvm.Lib.Math.max.code 2 (some .int) ∈ dz_GW) (hd0 : 1 ≤ d) (hcm : cells ≤ m0) (hsm : slots ≤ s0) (hst : (st.map fun v => v.category).sum ≤ 8) {z w u : Int} (h1 : -2147483648 ≤ z ∧ z < 2147483648) (h2 : -2147483648 ≤ w ∧ w < 2147483648) (hu : (if z < w then w else z) = u) (hd : decode cc pc = .ok (.invokestatic index, 3)) (kk : dz_V κ cells slots sz sk rf I (pc + 3) ls (.int (dz_i u) :: st)) : dz_V κ cells slots sz sk rf I pc ls (.int (dz_i w) :: .int (dz_i z) :: st) := by
  obtain ⟨p, l', e, R, s, m, args, below, meth, c, Q, D', Dt', A, nL'⟩ := κ
  obtain ⟨hx, hb, hml, hown, hts, hK, hA, hlk, hns⟩ := am
  obtain ⟨r1, r2, r3, r4⟩ := rm
  intro H locs la hz hW hsA hS hc hl
  have hz9 : d ≤ R.frames := r1
  have hy9 : 36 * d ≤ R.locals := r2
  refine va_mmax hx hb (by rw [hml]; exact hl.1.symm) hown (hts _ hg.1) (hts _ hg.2.1) (hts _ hg.2.2.1) (hts _ hg.2.2.2) (by omega) (by omega) (by omega) (by omega) hd ?_
  have e : (if dz_i z < dz_i w then dz_i w else dz_i z) = dz_i u := by
    rw [← hu]
    by_cases hc9 : z < w
    · rw [if_pos ((dz_lt h1 h2).mpr hc9), if_pos hc9]
    · rw [if_neg (fun q => hc9 ((dz_lt h1 h2).mp q)), if_neg hc9]
  rw [e]
  exact kk H locs la hz hW hsA hS hc hl
theorem dz_min {κ : dz_Kx} {cc : ByteArray} {own : String} {cells slots sz : Nat} {sk : dz_Sk} {rf : dz_Rf} {I : dz_Hp} {pc : Nat} {ls : List (Nat × Value)} {st : List Value} (am : dz_Am κ cc own) {d m0 s0 : Nat} (rm : dz_Rm κ d m0 s0) {index : Nat} (hg : Cond.methodLink own index Jvm.Lib.Math.min.name ∈ dz_GW ∧ Cond.static Jvm.Lib.Math.min.name ∈ dz_GW ∧ Cond.initialized "java/lang/Math" ∈ dz_GW ∧ Cond.code Jvm.Lib.Math.min.name Jvm.Lib.Math.min.code 2 (some .int) ∈ dz_GW) (hd0 : 1 ≤ d) (hcm : cells ≤ m0) (hsm : slots ≤ s0) (hst : (st.map fun v => v.category).sum ≤ 8) {z w u : Int} (h1 : -2147483648 ≤ z ∧ z < 2147483648) (h2 : -2147483648 ≤ w ∧ w < 2147483648) (hu : (if w < z then w else z) = u) (hd : decode cc pc = .ok (.invokestatic index, 3)) (kk : dz_V κ cells slots sz sk rf I (pc + 3) ls (.int (dz_i u) :: st)) : dz_V κ cells slots sz sk rf I pc ls (.int (dz_i w) :: .int (dz_i z) :: st) := by
  obtain ⟨p, l', e, R, s, m, args, below, meth, c, Q, D', Dt', A, nL'⟩ := κ
  obtain ⟨hx, hb, hml, hown, hts, hK, hA, hlk, hns⟩ := am
  obtain ⟨r1, r2, r3, r4⟩ := rm
  intro H locs la hz hW hsA hS hc hl
  have hz9 : d ≤ R.frames := r1
  have hy9 : 36 * d ≤ R.locals := r2
  refine va_mmin hx hb (by rw [hml]; exact hl.1.symm) hown (hts _ hg.1) (hts _ hg.2.1) (hts _ hg.2.2.1) (hts _ hg.2.2.2) (by omega) (by omega) (by omega) (by omega) hd ?_
  have e : (if dz_i w < dz_i z then dz_i w else dz_i z) = dz_i u := by
    rw [← hu]
    by_cases hc9 : w < z
    · rw [if_pos ((dz_lt h2 h1).mpr hc9), if_pos hc9]
    · rw [if_neg (fun q => hc9 ((dz_lt h2 h1).mp q)), if_neg hc9]
  rw [e]
  exact kk H locs la hz hW hsA hS hc hl
theorem sp_cl_max {lo hi w : Int} (h : lo ≤ hi) : (if lo < (if w < hi then w else hi) then (if w < hi then w else hi) else lo) = sp_clamp lo hi w := by unfold sp_clamp; (repeat' split) <;> omega
/-- all references below offset n are set -/
def ct_fl (b lo n : Nat) (β : Nat → Int → Bool) : Prop := ∀ (o : Nat) (k : Int) (v : Nat), lo ≤ o → o < n → ly_rr o k = some v → β (b + o) k = true
set_option maxRecDepth 100000 in
set_option maxHeartbeats 4000000 in
set_option maxHeartbeats 4000000 in
theorem ct_dbf {b : Nat} {α β β2 : Nat → Int → Bool} (hm : ∀ q j, (ct_a (ct_a α (b + 1) 0) (b + 0) 0) q j = true → β q j = true) (hP : ct_PR b 24 β) (hm2 : ∀ q j, (ct_a (ct_a (ct_a (ct_a (ct_a (ct_a (ct_a β (b + 0) 1) (b + 77) 0) (b + 77) 1) (b + 0) 2) (b + 78) 1) (b + 78) 0) (b + 0) 3) q j = true → β2 q j = true) (hP2 : ct_PB b 12 β2) : ct_fl b 0 130 (ct_a β2 (b + 0) 4) := by
  have k1 : ∀ q j, (ct_a (ct_a α (b + 1) 0) (b + 0) 0) q j = true → ct_a β2 (b + 0) 4 q j = true := fun q j h => ct_up (hm2 q j (ct_up (ct_up (ct_up (ct_up (ct_up (ct_up (ct_up (hm q j h)))))))))
  have k2 : ∀ q j, β q j = true → ct_a β2 (b + 0) 4 q j = true := fun q j h => ct_up (hm2 q j (ct_up (ct_up (ct_up (ct_up (ct_up (ct_up (ct_up h))))))))
  intro o k v hlo ho h
  unfold ly_rr at h
  by_cases c1 : o = 0 ∧ k = 0
  · rw [c1.1, c1.2]; exact k1 _ _ ct_a_s
  by_cases c2 : o = 0 ∧ k = 1
  · rw [c2.1, c2.2]; exact ct_up (hm2 _ _ (by (repeat (first | exact ct_a_s | refine ct_up ?_))))
  by_cases c3 : o = 0 ∧ k = 2
  · rw [c3.1, c3.2]; exact ct_up (hm2 _ _ (by (repeat (first | exact ct_a_s | refine ct_up ?_))))
  by_cases c4 : o = 0 ∧ k = 3
  · rw [c4.1, c4.2]; exact ct_up (hm2 _ _ (by (repeat (first | exact ct_a_s | refine ct_up ?_))))
  by_cases c5 : o = 0 ∧ k = 4
  · rw [c5.1, c5.2]; exact ct_a_s
  by_cases c6 : o = 1 ∧ k = 0
  · rw [c6.1, c6.2]; exact k1 _ _ (ct_up ct_a_s)
  by_cases c7 : o = 3 ∧ k = 0
  · rw [c7.1, c7.2]; exact k2 _ _ hP.1
  by_cases c8 : o = 77 ∧ k = 0
  · rw [c8.1, c8.2]; exact ct_up (hm2 _ _ (by (repeat (first | exact ct_a_s | refine ct_up ?_))))
  by_cases c9 : o = 77 ∧ k = 1
  · rw [c9.1, c9.2]; exact ct_up (hm2 _ _ (by (repeat (first | exact ct_a_s | refine ct_up ?_))))
  by_cases c10 : o = 78 ∧ k = 0
  · rw [c10.1, c10.2]; exact ct_up (hm2 _ _ (by (repeat (first | exact ct_a_s | refine ct_up ?_))))
  by_cases c11 : o = 78 ∧ k = 1
  · rw [c11.1, c11.2]; exact ct_up (hm2 _ _ (by (repeat (first | exact ct_a_s | refine ct_up ?_))))
  by_cases c12 : o = 80 ∧ k = 3
  · rw [c12.1, c12.2]; exact ct_up hP2.1
  rw [if_neg c1, if_neg c2, if_neg c3, if_neg c4, if_neg c5, if_neg c6, if_neg c7, if_neg c8, if_neg c9, if_neg c10, if_neg c11, if_neg c12] at h
  repeat rw [if_neg (by omega)] at h
  by_cases d1 : o = 4
  · rw [if_pos d1] at h
    by_cases d2 : 0 ≤ k ∧ k < 24
    · have := (hP.2 k.toNat (by omega)).1
      rw [show ((k.toNat : Nat) : Int) = k by omega] at this
      rw [d1]; exact k2 _ _ this
    · rw [if_neg d2] at h; cases h
  rw [if_neg d1] at h
  by_cases d3 : o = 81
  · rw [if_pos d3] at h
    by_cases d2 : 0 ≤ k ∧ k < 12
    · have := (hP2.2 k.toNat (by omega)).1
      rw [show ((k.toNat : Nat) : Int) = k by omega] at this
      rw [d3]; exact ct_up this
    · rw [if_neg d2] at h; cases h
  rw [if_neg d3] at h
  by_cases d4 : 5 ≤ o ∧ o < 77 ∧ (o - 5) % 3 = 0
  · rw [if_pos d4] at h
    have := hP.2 ((o - 5) / 3) (by omega)
    rw [show 5 + 3 * ((o - 5) / 3) = o by omega] at this
    by_cases e1 : k = 1
    · rw [e1]; exact k2 _ _ this.2.1
    by_cases e2 : k = 3
    · rw [e2]; exact k2 _ _ this.2.2
    rw [if_neg e1, if_neg e2] at h; cases h
  rw [if_neg d4] at h
  by_cases d5 : 82 ≤ o ∧ o < 130 ∧ (o - 82) % 4 = 0
  · rw [if_pos d5] at h
    have := hP2.2 ((o - 82) / 4) (by omega)
    rw [show 82 + 4 * ((o - 82) / 4) = o by omega] at this
    by_cases e1 : k = 1
    · rw [e1]; exact ct_up this.2.1
    by_cases e2 : k = 3
    · rw [e2]; exact ct_up this.2.2.1
    by_cases e3 : k = 5
    · rw [e3]; exact ct_up this.2.2.2
    rw [if_neg e1, if_neg e2, if_neg e3] at h; cases h
  rw [if_neg d5] at h; cases h
theorem c_DotBook_init (l : Launch) (D : va_G) (Dt : Nat → ClassId) (b : Nat) (α : Nat → Int → Bool) (I : dz_Hp) (w h : Int) (hw : -2147483648 ≤ w ∧ w < 2147483648) (hh : -2147483648 ≤ h ∧ h < 2147483648) (hZ : ct_z α I (b + 1)) : dz_C l D Dt y_DotBook_init b_DotBook_init 3 none 4 129 8986 [.ref (b + 0), .int (dz_i w), .int (dz_i h)] (b + 1) (ct_s b 1) (ct_r b α) I (ct_Po b α 130 (dz_up (dz_up (dz_up (dz_up (dz_up (dz_up I (b + 3) 2 (-1)) (b + 80) 5 1) (b + 80) 7 1) (b + 80) 0 (sp_clamp 10 40 w)) (b + 80) 1 (sp_clamp 4 20 h)) (b + 80) 2 ((sp_clamp 4 20 h) - 1)) (ct_fl b 0 130)) := by
  refine dz_enter R_DotBook (by decide) rfl (Nat.le_of_ble_eq_true rfl) (ly_cat _ 0 rfl) (fun κ am hDd rt rm hin => ?_)
  have x : dz_Am κ b_DotBook_init R_DotBook ∧ True := ⟨am, trivial⟩
  have hN : dz_n κ = 3 := by obtain ⟨p, l', e, R, s, m, args, below, meth, c, Q, D', Dt', A, nL'⟩ := κ; exact hDd.2.2.2
  have hcw := sp_clamp_w w
  have hch := sp_clamp_h h
  show dz_V κ 0 0 (b + 1) (ct_s b 1) (ct_r b α) I 0 [(0, .ref (b + 0)), (1, .int (dz_i w)), (2, .int (dz_i h))] []
  refine dz_aload_n x.1 0 d_DotBook_init_0 rfl rfl ?_
  refine dz_objI x.1 rm (by decide) oi_DotBook (Nat.le_of_ble_eq_true rfl) d_DotBook_init_1 ?_
  refine dz_aload_n x.1 0 d_DotBook_init_4 rfl rfl ?_
  refine ct_new x.1 rm nl_DotBook_9 rfl hZ d_DotBook_init_5 (by omega) (by omega) ?_
  show dz_V κ 1 2 (b + 2) (ct_s b 2) (ct_r b α) I 8 [(0, .ref (b + 0)), (1, .int (dz_i w)), (2, .int (dz_i h))] [.ref (b + 1), .ref (b + 0)]
  refine dz_dup x.1 d_DotBook_init_8 rfl ?_
  refine dz_callI (rest := [.ref (b + 1), .ref (b + 0)]) x.1 hDd rm cl_DotBook_11 (c_Typed_init l D Dt b α I (ct_z_s hZ)) (by decide) (by omega) (by omega) rfl rfl (Nat.le_of_ble_eq_true rfl) d_DotBook_init_9 (fun v sz' sk' rf' I' hp1 => ?_)
  obtain ⟨rfl, rfl, rfl, rfl, hp1⟩ := hp1
  have hp1 := hp1.symm
  subst hp1
  show dz_V κ 2 82 (b + 3) (ct_s b 3) (ct_r b (ct_a α (b + 1) 0)) I 12 [(0, .ref (b + 0)), (1, .int (dz_i w)), (2, .int (dz_i h))] [.ref (b + 1), .ref (b + 0)]
  refine dz_putrF x.1 (ct_ty (b := b) (by omega) rfl) fl_DotBook_12 fr_DotBook_0 hin d_DotBook_init_12 ?_
  rw [ct_r_set (lr_DotBook_0 b)]
  show dz_V κ 2 82 (b + 3) (ct_s b 3) (ct_r b (ct_a (ct_a α (b + 1) 0) (b + 0) 0)) I 15 [(0, .ref (b + 0)), (1, .int (dz_i w)), (2, .int (dz_i h))] []
  refine dz_aload_n x.1 0 d_DotBook_init_15 rfl rfl ?_
  refine ct_new x.1 rm nl_DotBook_16 rfl (ct_z_a (ct_z_a (ct_z_s (ct_z_s hZ)) (by omega)) (by omega)) d_DotBook_init_16 (by omega) (by omega) ?_
  show dz_V κ 3 85 (b + 4) (ct_s b 4) (ct_r b (ct_a (ct_a α (b + 1) 0) (b + 0) 0)) I 19 [(0, .ref (b + 0)), (1, .int (dz_i w)), (2, .int (dz_i h))] [.ref (b + 3), .ref (b + 0)]
  refine dz_dup x.1 d_DotBook_init_19 rfl ?_
  refine dz_callI (rest := [.ref (b + 3), .ref (b + 0)]) x.1 hDd rm cl_DotBook_18 (c_RuleList_init l D Dt b (ct_a (ct_a α (b + 1) 0) (b + 0) 0) I (ct_z_s (ct_z_a (ct_z_a (ct_z_s (ct_z_s hZ)) (by omega)) (by omega)))) (by decide) (by omega) (by omega) rfl rfl (Nat.le_of_ble_eq_true rfl) d_DotBook_init_20 (fun v sz' sk' rf' I' hp2 => ?_)
  obtain ⟨rfl, rfl, rfl, hp2, β, rfl, hm, hP, hz⟩ := hp2
  have hp2 := hp2.symm
  subst hp2
  show dz_V κ 76 445 (b + 77) (ct_s b 77) (ct_r b β) (dz_up I (b + 3) 2 (-1)) 23 [(0, .ref (b + 0)), (1, .int (dz_i w)), (2, .int (dz_i h))] [.ref (b + 3), .ref (b + 0)]
  refine dz_putrF x.1 (ct_ty (b := b) (by omega) rfl) fl_DotBook_19 fr_DotBook_1 hin d_DotBook_init_23 ?_
  rw [ct_r_set (lr_DotBook_1 b)]
  show dz_V κ 76 445 (b + 77) (ct_s b 77) (ct_r b (ct_a β (b + 0) 1)) (dz_up I (b + 3) 2 (-1)) 26 [(0, .ref (b + 0)), (1, .int (dz_i w)), (2, .int (dz_i h))] []
  refine dz_aload_n x.1 0 d_DotBook_init_26 rfl rfl ?_
  refine ct_new x.1 rm nl_DotBook_23 rfl (ct_z_a hz (by omega)) d_DotBook_init_27 (by omega) (by omega) ?_
  show dz_V κ 77 450 (b + 78) (ct_s b 78) (ct_r b (ct_a β (b + 0) 1)) (dz_up I (b + 3) 2 (-1)) 30 [(0, .ref (b + 0)), (1, .int (dz_i w)), (2, .int (dz_i h))] [.ref (b + 77), .ref (b + 0)]
  refine dz_dup x.1 d_DotBook_init_30 rfl ?_
  refine dz_aload_n x.1 0 d_DotBook_init_31 rfl rfl ?_
  refine dz_getr x.1 (ct_ty (b := b) (by omega) rfl) fl_DotBook_12 ((ct_r_get (by (repeat (first | exact ct_a_s | exact hm _ _ ct_a_s | refine ct_up ?_)))).trans (lr_DotBook_0 b)) d_DotBook_init_32 ?_
  refine dz_aload_n x.1 0 d_DotBook_init_35 rfl rfl ?_
  refine dz_getr x.1 (ct_ty (b := b) (by omega) rfl) fl_DotBook_19 ((ct_r_get (by (repeat (first | exact ct_a_s | exact hm _ _ ct_a_s | refine ct_up ?_)))).trans (lr_DotBook_1 b)) d_DotBook_init_36 ?_
  refine dz_callI (rest := [.ref (b + 77), .ref (b + 0)]) x.1 hDd rm cl_DotBook_25 (c_Translator_init l D Dt b (ct_a β (b + 0) 1) (dz_up I (b + 3) 2 (-1)) (ct_z_s (ct_z_a hz (by omega)))) (by decide) (by omega) (by omega) rfl rfl (Nat.le_of_ble_eq_true rfl) d_DotBook_init_39 (fun v sz' sk' rf' I' hp3 => ?_)
  obtain ⟨rfl, rfl, rfl, rfl, hp3⟩ := hp3
  have hp3 := hp3.symm
  subst hp3
  show dz_V κ 77 450 (b + 78) (ct_s b 78) (ct_r b (ct_a (ct_a (ct_a β (b + 0) 1) (b + 77) 0) (b + 77) 1)) (dz_up I (b + 3) 2 (-1)) 42 [(0, .ref (b + 0)), (1, .int (dz_i w)), (2, .int (dz_i h))] [.ref (b + 77), .ref (b + 0)]
  refine dz_putrF x.1 (ct_ty (b := b) (by omega) rfl) fl_DotBook_28 fr_DotBook_2 hin d_DotBook_init_42 ?_
  rw [ct_r_set (lr_DotBook_2 b)]
  show dz_V κ 77 450 (b + 78) (ct_s b 78) (ct_r b (ct_a (ct_a (ct_a (ct_a β (b + 0) 1) (b + 77) 0) (b + 77) 1) (b + 0) 2)) (dz_up I (b + 3) 2 (-1)) 45 [(0, .ref (b + 0)), (1, .int (dz_i w)), (2, .int (dz_i h))] []
  refine dz_aload_n x.1 0 d_DotBook_init_45 rfl rfl ?_
  refine ct_new x.1 rm nl_DotBook_32 rfl (ct_z_a (ct_z_a (ct_z_a (ct_z_s (ct_z_a hz (by omega))) (by omega)) (by omega)) (by omega)) d_DotBook_init_46 (by omega) (by omega) ?_
  show dz_V κ 78 458 (b + 79) (ct_s b 79) (ct_r b (ct_a (ct_a (ct_a (ct_a β (b + 0) 1) (b + 77) 0) (b + 77) 1) (b + 0) 2)) (dz_up I (b + 3) 2 (-1)) 49 [(0, .ref (b + 0)), (1, .int (dz_i w)), (2, .int (dz_i h))] [.ref (b + 78), .ref (b + 0)]
  refine dz_dup x.1 d_DotBook_init_49 rfl ?_
  refine dz_aload_n x.1 0 d_DotBook_init_50 rfl rfl ?_
  refine dz_getr x.1 (ct_ty (b := b) (by omega) rfl) fl_DotBook_19 ((ct_r_get (by (repeat (first | exact ct_a_s | exact hm _ _ ct_a_s | refine ct_up ?_)))).trans (lr_DotBook_1 b)) d_DotBook_init_51 ?_
  refine dz_callI (rest := [.ref (b + 78), .ref (b + 0)]) x.1 hDd rm cl_DotBook_34 (c_Reader_init l D Dt b (ct_a (ct_a (ct_a (ct_a β (b + 0) 1) (b + 77) 0) (b + 77) 1) (b + 0) 2) (dz_up I (b + 3) 2 (-1)) (ct_z_s (ct_z_a (ct_z_a (ct_z_a (ct_z_s (ct_z_a hz (by omega))) (by omega)) (by omega)) (by omega)))) (by decide) (by omega) (by omega) rfl rfl (Nat.le_of_ble_eq_true rfl) d_DotBook_init_54 (fun v sz' sk' rf' I' hp4 => ?_)
  obtain ⟨rfl, rfl, rfl, rfl, hp4⟩ := hp4
  have hp4 := hp4.symm
  subst hp4
  show dz_V κ 79 1658 (b + 80) (ct_s b 80) (ct_r b (ct_a (ct_a (ct_a (ct_a (ct_a (ct_a β (b + 0) 1) (b + 77) 0) (b + 77) 1) (b + 0) 2) (b + 78) 1) (b + 78) 0)) (dz_up I (b + 3) 2 (-1)) 57 [(0, .ref (b + 0)), (1, .int (dz_i w)), (2, .int (dz_i h))] [.ref (b + 78), .ref (b + 0)]
  refine dz_putrF x.1 (ct_ty (b := b) (by omega) rfl) fl_DotBook_37 fr_DotBook_3 hin d_DotBook_init_57 ?_
  rw [ct_r_set (lr_DotBook_3 b)]
  show dz_V κ 79 1658 (b + 80) (ct_s b 80) (ct_r b (ct_a (ct_a (ct_a (ct_a (ct_a (ct_a (ct_a β (b + 0) 1) (b + 77) 0) (b + 77) 1) (b + 0) 2) (b + 78) 1) (b + 78) 0) (b + 0) 3)) (dz_up I (b + 3) 2 (-1)) 60 [(0, .ref (b + 0)), (1, .int (dz_i w)), (2, .int (dz_i h))] []
  refine dz_aload_n x.1 0 d_DotBook_init_60 rfl rfl ?_
  refine ct_new x.1 rm nl_DotBook_41 rfl (ct_z_a (ct_z_a (ct_z_a (ct_z_s (ct_z_s (ct_z_a (ct_z_a (ct_z_a (ct_z_s (ct_z_a hz (by omega))) (by omega)) (by omega)) (by omega)))) (by omega)) (by omega)) (by omega)) d_DotBook_init_61 (by omega) (by omega) ?_
  show dz_V κ 80 1666 (b + 81) (ct_s b 81) (ct_r b (ct_a (ct_a (ct_a (ct_a (ct_a (ct_a (ct_a β (b + 0) 1) (b + 77) 0) (b + 77) 1) (b + 0) 2) (b + 78) 1) (b + 78) 0) (b + 0) 3)) (dz_up I (b + 3) 2 (-1)) 64 [(0, .ref (b + 0)), (1, .int (dz_i w)), (2, .int (dz_i h))] [.ref (b + 80), .ref (b + 0)]
  refine dz_dup x.1 d_DotBook_init_64 rfl ?_
  refine dz_bipush x.1 d_DotBook_init_65 (by decide) ?_
  refine dz_bipush x.1 d_DotBook_init_67 (by decide) ?_
  refine dz_iload_n x.1 1 d_DotBook_init_69 rfl rfl ?_
  refine dz_min (u := (if w < 40 then w else 40)) x.1 rm ml_DotBook_43 (by decide) (by omega) (by omega) (Nat.le_of_ble_eq_true rfl) (by omega) (by omega) rfl d_DotBook_init_70 ?_
  refine dz_max (u := (sp_clamp 10 40 w)) x.1 rm ml_DotBook_49 (by decide) (by omega) (by omega) (Nat.le_of_ble_eq_true rfl) (by omega) (by split <;> omega) (sp_cl_max (by decide)) d_DotBook_init_73 ?_
  refine dz_iconst x.1 d_DotBook_init_76 ?_
  refine dz_bipush x.1 d_DotBook_init_77 (by decide) ?_
  refine dz_iload_n x.1 2 d_DotBook_init_79 rfl rfl ?_
  refine dz_min (u := (if h < 20 then h else 20)) x.1 rm ml_DotBook_43 (by decide) (by omega) (by omega) (Nat.le_of_ble_eq_true rfl) (by omega) (by omega) rfl d_DotBook_init_80 ?_
  refine dz_max (u := (sp_clamp 4 20 h)) x.1 rm ml_DotBook_49 (by decide) (by omega) (by omega) (Nat.le_of_ble_eq_true rfl) (by omega) (by split <;> omega) (sp_cl_max (by decide)) d_DotBook_init_83 ?_
  refine dz_callI (rest := [.ref (b + 80), .ref (b + 0)]) x.1 hDd rm cl_DotBook_52 (c_Book_init l D Dt b (ct_a (ct_a (ct_a (ct_a (ct_a (ct_a (ct_a β (b + 0) 1) (b + 77) 0) (b + 77) 1) (b + 0) 2) (b + 78) 1) (b + 78) 0) (b + 0) 3) (dz_up I (b + 3) 2 (-1)) (sp_clamp 10 40 w) (sp_clamp 4 20 h) (by omega) (ct_z_s (ct_z_a (ct_z_a (ct_z_a (ct_z_s (ct_z_s (ct_z_a (ct_z_a (ct_z_a (ct_z_s (ct_z_a hz (by omega))) (by omega)) (by omega)) (by omega)))) (by omega)) (by omega)) (by omega)))) (by decide) (by omega) (by omega) rfl rfl (Nat.le_of_ble_eq_true rfl) d_DotBook_init_86 (fun v sz' sk' rf' I' hp5 => ?_)
  obtain ⟨rfl, rfl, rfl, hp5, β2, rfl, hm2, hP2, hz2⟩ := hp5
  have hp5 := hp5.symm
  subst hp5
  show dz_V κ 129 8986 (b + 130) (ct_s b 130) (ct_r b β2) (dz_up (dz_up (dz_up (dz_up (dz_up (dz_up I (b + 3) 2 (-1)) (b + 80) 5 1) (b + 80) 7 1) (b + 80) 0 (sp_clamp 10 40 w)) (b + 80) 1 (sp_clamp 4 20 h)) (b + 80) 2 ((sp_clamp 4 20 h) - 1)) 89 [(0, .ref (b + 0)), (1, .int (dz_i w)), (2, .int (dz_i h))] [.ref (b + 80), .ref (b + 0)]
  refine dz_putrF x.1 (ct_ty (b := b) (by omega) rfl) fl_DotBook_55 fr_DotBook_4 hin d_DotBook_init_89 ?_
  rw [ct_r_set (lr_DotBook_4 b)]
  show dz_V κ 129 8986 (b + 130) (ct_s b 130) (ct_r b (ct_a β2 (b + 0) 4)) (dz_up (dz_up (dz_up (dz_up (dz_up (dz_up I (b + 3) 2 (-1)) (b + 80) 5 1) (b + 80) 7 1) (b + 80) 0 (sp_clamp 10 40 w)) (b + 80) 1 (sp_clamp 4 20 h)) (b + 80) 2 ((sp_clamp 4 20 h) - 1)) 92 [(0, .ref (b + 0)), (1, .int (dz_i w)), (2, .int (dz_i h))] []
  exact dz_vret x.1 rt d_DotBook_init_92 ⟨rfl, rfl, rfl, rfl, _, rfl, fun q j h9 => ct_up (hm2 q j (ct_up (ct_up (ct_up (ct_up (ct_up (ct_up (ct_up (hm q j (ct_up (ct_up h9))))))))))), ct_dbf hm hP hm2 hP2, (ct_z_a hz2 (by omega))⟩
set_option maxRecDepth 100000 in
set_option maxHeartbeats 4000000 in
theorem c_Model_init (l : Launch) (D : va_G) (Dt : Nat → ClassId) (b : Nat) (α : Nat → Int → Bool) (I : dz_Hp) (w h : Int) (hw : -2147483648 ≤ w ∧ w < 2147483648) (hh : -2147483648 ≤ h ∧ h < 2147483648) (hZ : ct_z α I (b + 131)) : ct_M l D Dt b y_Model_init b_Model_init 3 2 14 7744 [.ref (b + 130), .int (dz_i w), .int (dz_i h)] 131 α I 145 (ct_a (ct_a (ct_a (ct_a (ct_a (ct_a (ct_a (ct_a (ct_a (ct_a (ct_a (ct_a (ct_a (ct_a α (b + 130) 4) (b + 130) 6) (b + 130) 7) (b + 130) 8) (b + 130) 9) (b + 130) 10) (b + 130) 13) (b + 130) 14) (b + 130) 15) (b + 130) 16) (b + 130) 18) (b + 130) 20) (b + 130) 26) (b + 130) 27) (dz_up (dz_up (dz_up I (b + 130) 11 (-1)) (b + 130) 1 (sp_clamp 10 40 w)) (b + 130) 2 (sp_clamp 4 20 h)) := by
  refine dz_enter R_Model (by decide) rfl (Nat.le_of_ble_eq_true rfl) (ly_cat _ 0 rfl) (fun κ am hDd rt rm hin => ?_)
  have x : dz_Am κ b_Model_init R_Model ∧ True := ⟨am, trivial⟩
  have hN : dz_n κ = 3 := by obtain ⟨p, l', e, R, s, m, args, below, meth, c, Q, D', Dt', A, nL'⟩ := κ; exact hDd.2.2.2
  show dz_V κ 0 0 (b + 131) (ct_s b 131) (ct_r b α) I 0 [(0, .ref (b + 130)), (1, .int (dz_i w)), (2, .int (dz_i h))] []
  refine dz_aload_n x.1 0 d_Model_init_0 rfl rfl ?_
  refine dz_objI x.1 rm (by decide) oi_Model (Nat.le_of_ble_eq_true rfl) d_Model_init_1 ?_
  refine dz_aload_n x.1 0 d_Model_init_4 rfl rfl ?_
  refine dz_bipush x.1 d_Model_init_5 (by decide) ?_
  refine ct_newa x.1 rm 1 80 (by decide) rfl (by decide) al_char hZ d_Model_init_7 (by omega) (by omega) ?_
  show dz_V κ 1 80 (b + 132) (ct_s b 132) (ct_r b α) I 9 [(0, .ref (b + 130)), (1, .int (dz_i w)), (2, .int (dz_i h))] [.ref (b + 131), .ref (b + 130)]
  refine dz_putr x.1 (ct_ty (b := b) (by omega) rfl) fl_Model_7 fr_Model_4 d_Model_init_9 ?_
  rw [ct_r_set (lr_Model_4 b)]
  show dz_V κ 1 80 (b + 132) (ct_s b 132) (ct_r b (ct_a α (b + 130) 4)) I 12 [(0, .ref (b + 130)), (1, .int (dz_i w)), (2, .int (dz_i h))] []
  refine dz_aload_n x.1 0 d_Model_init_12 rfl rfl ?_
  refine dz_bipush x.1 d_Model_init_13 (by decide) ?_
  refine ct_newa x.1 rm 0 24 (by decide) rfl (by decide) al_int (ct_z_a (ct_z_s hZ) (by omega)) d_Model_init_15 (by omega) (by omega) ?_
  show dz_V κ 2 104 (b + 133) (ct_s b 133) (ct_r b (ct_a α (b + 130) 4)) I 17 [(0, .ref (b + 130)), (1, .int (dz_i w)), (2, .int (dz_i h))] [.ref (b + 132), .ref (b + 130)]
  refine dz_putr x.1 (ct_ty (b := b) (by omega) rfl) fl_Model_13 fr_Model_6 d_Model_init_17 ?_
  rw [ct_r_set (lr_Model_6 b)]
  show dz_V κ 2 104 (b + 133) (ct_s b 133) (ct_r b (ct_a (ct_a α (b + 130) 4) (b + 130) 6)) I 20 [(0, .ref (b + 130)), (1, .int (dz_i w)), (2, .int (dz_i h))] []
  refine dz_aload_n x.1 0 d_Model_init_20 rfl rfl ?_
  refine dz_bipush x.1 d_Model_init_21 (by decide) ?_
  refine ct_newa x.1 rm 0 24 (by decide) rfl (by decide) al_int (ct_z_a (ct_z_s (ct_z_a (ct_z_s hZ) (by omega))) (by omega)) d_Model_init_23 (by omega) (by omega) ?_
  show dz_V κ 3 128 (b + 134) (ct_s b 134) (ct_r b (ct_a (ct_a α (b + 130) 4) (b + 130) 6)) I 25 [(0, .ref (b + 130)), (1, .int (dz_i w)), (2, .int (dz_i h))] [.ref (b + 133), .ref (b + 130)]
  refine dz_putr x.1 (ct_ty (b := b) (by omega) rfl) fl_Model_17 fr_Model_7 d_Model_init_25 ?_
  rw [ct_r_set (lr_Model_7 b)]
  show dz_V κ 3 128 (b + 134) (ct_s b 134) (ct_r b (ct_a (ct_a (ct_a α (b + 130) 4) (b + 130) 6) (b + 130) 7)) I 28 [(0, .ref (b + 130)), (1, .int (dz_i w)), (2, .int (dz_i h))] []
  refine dz_aload_n x.1 0 d_Model_init_28 rfl rfl ?_
  refine dz_sipush x.1 d_Model_init_29 (by decide) ?_
  refine ct_newa x.1 rm 1 144 (by decide) rfl (by decide) al_char (ct_z_a (ct_z_s (ct_z_a (ct_z_s (ct_z_a (ct_z_s hZ) (by omega))) (by omega))) (by omega)) d_Model_init_32 (by omega) (by omega) ?_
  show dz_V κ 4 272 (b + 135) (ct_s b 135) (ct_r b (ct_a (ct_a (ct_a α (b + 130) 4) (b + 130) 6) (b + 130) 7)) I 34 [(0, .ref (b + 130)), (1, .int (dz_i w)), (2, .int (dz_i h))] [.ref (b + 134), .ref (b + 130)]
  refine dz_putr x.1 (ct_ty (b := b) (by omega) rfl) fl_Model_20 fr_Model_8 d_Model_init_34 ?_
  rw [ct_r_set (lr_Model_8 b)]
  show dz_V κ 4 272 (b + 135) (ct_s b 135) (ct_r b (ct_a (ct_a (ct_a (ct_a α (b + 130) 4) (b + 130) 6) (b + 130) 7) (b + 130) 8)) I 37 [(0, .ref (b + 130)), (1, .int (dz_i w)), (2, .int (dz_i h))] []
  refine dz_aload_n x.1 0 d_Model_init_37 rfl rfl ?_
  refine dz_bipush x.1 d_Model_init_38 (by decide) ?_
  refine ct_newa x.1 rm 0 24 (by decide) rfl (by decide) al_int (ct_z_a (ct_z_s (ct_z_a (ct_z_s (ct_z_a (ct_z_s (ct_z_a (ct_z_s hZ) (by omega))) (by omega))) (by omega))) (by omega)) d_Model_init_40 (by omega) (by omega) ?_
  show dz_V κ 5 296 (b + 136) (ct_s b 136) (ct_r b (ct_a (ct_a (ct_a (ct_a α (b + 130) 4) (b + 130) 6) (b + 130) 7) (b + 130) 8)) I 42 [(0, .ref (b + 130)), (1, .int (dz_i w)), (2, .int (dz_i h))] [.ref (b + 135), .ref (b + 130)]
  refine dz_putr x.1 (ct_ty (b := b) (by omega) rfl) fl_Model_23 fr_Model_9 d_Model_init_42 ?_
  rw [ct_r_set (lr_Model_9 b)]
  show dz_V κ 5 296 (b + 136) (ct_s b 136) (ct_r b (ct_a (ct_a (ct_a (ct_a (ct_a α (b + 130) 4) (b + 130) 6) (b + 130) 7) (b + 130) 8) (b + 130) 9)) I 45 [(0, .ref (b + 130)), (1, .int (dz_i w)), (2, .int (dz_i h))] []
  refine dz_aload_n x.1 0 d_Model_init_45 rfl rfl ?_
  refine dz_bipush x.1 d_Model_init_46 (by decide) ?_
  refine ct_newa x.1 rm 0 72 (by decide) rfl (by decide) al_int (ct_z_a (ct_z_s (ct_z_a (ct_z_s (ct_z_a (ct_z_s (ct_z_a (ct_z_s (ct_z_a (ct_z_s hZ) (by omega))) (by omega))) (by omega))) (by omega))) (by omega)) d_Model_init_48 (by omega) (by omega) ?_
  show dz_V κ 6 368 (b + 137) (ct_s b 137) (ct_r b (ct_a (ct_a (ct_a (ct_a (ct_a α (b + 130) 4) (b + 130) 6) (b + 130) 7) (b + 130) 8) (b + 130) 9)) I 50 [(0, .ref (b + 130)), (1, .int (dz_i w)), (2, .int (dz_i h))] [.ref (b + 136), .ref (b + 130)]
  refine dz_putr x.1 (ct_ty (b := b) (by omega) rfl) fl_Model_26 fr_Model_10 d_Model_init_50 ?_
  rw [ct_r_set (lr_Model_10 b)]
  show dz_V κ 6 368 (b + 137) (ct_s b 137) (ct_r b (ct_a (ct_a (ct_a (ct_a (ct_a (ct_a α (b + 130) 4) (b + 130) 6) (b + 130) 7) (b + 130) 8) (b + 130) 9) (b + 130) 10)) I 53 [(0, .ref (b + 130)), (1, .int (dz_i w)), (2, .int (dz_i h))] []
  refine dz_aload_n x.1 0 d_Model_init_53 rfl rfl ?_
  refine dz_iconst x.1 d_Model_init_54 ?_
  refine dz_puti x.1 (ct_ty (b := b) (by omega) rfl) fl_Model_29 fp_Model_11 d_Model_init_55 ?_
  refine dz_aload_n x.1 0 d_Model_init_58 rfl rfl ?_
  refine dz_bipush x.1 d_Model_init_59 (by decide) ?_
  refine ct_newa x.1 rm 0 12 (by decide) rfl (by decide) al_int (ct_z_up (ct_z_a (ct_z_s (ct_z_a (ct_z_s (ct_z_a (ct_z_s (ct_z_a (ct_z_s (ct_z_a (ct_z_s (ct_z_a (ct_z_s hZ) (by omega))) (by omega))) (by omega))) (by omega))) (by omega))) (by omega)) (by omega)) d_Model_init_61 (by omega) (by omega) ?_
  show dz_V κ 7 380 (b + 138) (ct_s b 138) (ct_r b (ct_a (ct_a (ct_a (ct_a (ct_a (ct_a α (b + 130) 4) (b + 130) 6) (b + 130) 7) (b + 130) 8) (b + 130) 9) (b + 130) 10)) (dz_up I (b + 130) 11 (-1)) 63 [(0, .ref (b + 130)), (1, .int (dz_i w)), (2, .int (dz_i h))] [.ref (b + 137), .ref (b + 130)]
  refine dz_putr x.1 (ct_ty (b := b) (by omega) rfl) fl_Model_33 fr_Model_13 d_Model_init_63 ?_
  rw [ct_r_set (lr_Model_13 b)]
  show dz_V κ 7 380 (b + 138) (ct_s b 138) (ct_r b (ct_a (ct_a (ct_a (ct_a (ct_a (ct_a (ct_a α (b + 130) 4) (b + 130) 6) (b + 130) 7) (b + 130) 8) (b + 130) 9) (b + 130) 10) (b + 130) 13)) (dz_up I (b + 130) 11 (-1)) 66 [(0, .ref (b + 130)), (1, .int (dz_i w)), (2, .int (dz_i h))] []
  refine dz_aload_n x.1 0 d_Model_init_66 rfl rfl ?_
  refine dz_bipush x.1 d_Model_init_67 (by decide) ?_
  refine ct_newa x.1 rm 0 12 (by decide) rfl (by decide) al_int (ct_z_a (ct_z_s (ct_z_up (ct_z_a (ct_z_s (ct_z_a (ct_z_s (ct_z_a (ct_z_s (ct_z_a (ct_z_s (ct_z_a (ct_z_s (ct_z_a (ct_z_s hZ) (by omega))) (by omega))) (by omega))) (by omega))) (by omega))) (by omega)) (by omega))) (by omega)) d_Model_init_69 (by omega) (by omega) ?_
  show dz_V κ 8 392 (b + 139) (ct_s b 139) (ct_r b (ct_a (ct_a (ct_a (ct_a (ct_a (ct_a (ct_a α (b + 130) 4) (b + 130) 6) (b + 130) 7) (b + 130) 8) (b + 130) 9) (b + 130) 10) (b + 130) 13)) (dz_up I (b + 130) 11 (-1)) 71 [(0, .ref (b + 130)), (1, .int (dz_i w)), (2, .int (dz_i h))] [.ref (b + 138), .ref (b + 130)]
  refine dz_putr x.1 (ct_ty (b := b) (by omega) rfl) fl_Model_36 fr_Model_14 d_Model_init_71 ?_
  rw [ct_r_set (lr_Model_14 b)]
  show dz_V κ 8 392 (b + 139) (ct_s b 139) (ct_r b (ct_a (ct_a (ct_a (ct_a (ct_a (ct_a (ct_a (ct_a α (b + 130) 4) (b + 130) 6) (b + 130) 7) (b + 130) 8) (b + 130) 9) (b + 130) 10) (b + 130) 13) (b + 130) 14)) (dz_up I (b + 130) 11 (-1)) 74 [(0, .ref (b + 130)), (1, .int (dz_i w)), (2, .int (dz_i h))] []
  refine dz_aload_n x.1 0 d_Model_init_74 rfl rfl ?_
  refine dz_sipush x.1 d_Model_init_75 (by decide) ?_
  refine ct_newa x.1 rm 0 2880 (by decide) rfl (by decide) al_int (ct_z_a (ct_z_s (ct_z_a (ct_z_s (ct_z_up (ct_z_a (ct_z_s (ct_z_a (ct_z_s (ct_z_a (ct_z_s (ct_z_a (ct_z_s (ct_z_a (ct_z_s (ct_z_a (ct_z_s hZ) (by omega))) (by omega))) (by omega))) (by omega))) (by omega))) (by omega)) (by omega))) (by omega))) (by omega)) d_Model_init_78 (by omega) (by omega) ?_
  show dz_V κ 9 3272 (b + 140) (ct_s b 140) (ct_r b (ct_a (ct_a (ct_a (ct_a (ct_a (ct_a (ct_a (ct_a α (b + 130) 4) (b + 130) 6) (b + 130) 7) (b + 130) 8) (b + 130) 9) (b + 130) 10) (b + 130) 13) (b + 130) 14)) (dz_up I (b + 130) 11 (-1)) 80 [(0, .ref (b + 130)), (1, .int (dz_i w)), (2, .int (dz_i h))] [.ref (b + 139), .ref (b + 130)]
  refine dz_putr x.1 (ct_ty (b := b) (by omega) rfl) fl_Model_39 fr_Model_15 d_Model_init_80 ?_
  rw [ct_r_set (lr_Model_15 b)]
  show dz_V κ 9 3272 (b + 140) (ct_s b 140) (ct_r b (ct_a (ct_a (ct_a (ct_a (ct_a (ct_a (ct_a (ct_a (ct_a α (b + 130) 4) (b + 130) 6) (b + 130) 7) (b + 130) 8) (b + 130) 9) (b + 130) 10) (b + 130) 13) (b + 130) 14) (b + 130) 15)) (dz_up I (b + 130) 11 (-1)) 83 [(0, .ref (b + 130)), (1, .int (dz_i w)), (2, .int (dz_i h))] []
  refine dz_aload_n x.1 0 d_Model_init_83 rfl rfl ?_
  refine dz_sipush x.1 d_Model_init_84 (by decide) ?_
  refine ct_newa x.1 rm 0 2880 (by decide) rfl (by decide) al_int (ct_z_a (ct_z_s (ct_z_a (ct_z_s (ct_z_a (ct_z_s (ct_z_up (ct_z_a (ct_z_s (ct_z_a (ct_z_s (ct_z_a (ct_z_s (ct_z_a (ct_z_s (ct_z_a (ct_z_s (ct_z_a (ct_z_s hZ) (by omega))) (by omega))) (by omega))) (by omega))) (by omega))) (by omega)) (by omega))) (by omega))) (by omega))) (by omega)) d_Model_init_87 (by omega) (by omega) ?_
  show dz_V κ 10 6152 (b + 141) (ct_s b 141) (ct_r b (ct_a (ct_a (ct_a (ct_a (ct_a (ct_a (ct_a (ct_a (ct_a α (b + 130) 4) (b + 130) 6) (b + 130) 7) (b + 130) 8) (b + 130) 9) (b + 130) 10) (b + 130) 13) (b + 130) 14) (b + 130) 15)) (dz_up I (b + 130) 11 (-1)) 89 [(0, .ref (b + 130)), (1, .int (dz_i w)), (2, .int (dz_i h))] [.ref (b + 140), .ref (b + 130)]
  refine dz_putr x.1 (ct_ty (b := b) (by omega) rfl) fl_Model_42 fr_Model_16 d_Model_init_89 ?_
  rw [ct_r_set (lr_Model_16 b)]
  show dz_V κ 10 6152 (b + 141) (ct_s b 141) (ct_r b (ct_a (ct_a (ct_a (ct_a (ct_a (ct_a (ct_a (ct_a (ct_a (ct_a α (b + 130) 4) (b + 130) 6) (b + 130) 7) (b + 130) 8) (b + 130) 9) (b + 130) 10) (b + 130) 13) (b + 130) 14) (b + 130) 15) (b + 130) 16)) (dz_up I (b + 130) 11 (-1)) 92 [(0, .ref (b + 130)), (1, .int (dz_i w)), (2, .int (dz_i h))] []
  refine dz_aload_n x.1 0 d_Model_init_92 rfl rfl ?_
  refine dz_sipush x.1 d_Model_init_93 (by decide) ?_
  refine ct_newa x.1 rm 1 1500 (by decide) rfl (by decide) al_char (ct_z_a (ct_z_s (ct_z_a (ct_z_s (ct_z_a (ct_z_s (ct_z_a (ct_z_s (ct_z_up (ct_z_a (ct_z_s (ct_z_a (ct_z_s (ct_z_a (ct_z_s (ct_z_a (ct_z_s (ct_z_a (ct_z_s (ct_z_a (ct_z_s hZ) (by omega))) (by omega))) (by omega))) (by omega))) (by omega))) (by omega)) (by omega))) (by omega))) (by omega))) (by omega))) (by omega)) d_Model_init_96 (by omega) (by omega) ?_
  show dz_V κ 11 7652 (b + 142) (ct_s b 142) (ct_r b (ct_a (ct_a (ct_a (ct_a (ct_a (ct_a (ct_a (ct_a (ct_a (ct_a α (b + 130) 4) (b + 130) 6) (b + 130) 7) (b + 130) 8) (b + 130) 9) (b + 130) 10) (b + 130) 13) (b + 130) 14) (b + 130) 15) (b + 130) 16)) (dz_up I (b + 130) 11 (-1)) 98 [(0, .ref (b + 130)), (1, .int (dz_i w)), (2, .int (dz_i h))] [.ref (b + 141), .ref (b + 130)]
  refine dz_putr x.1 (ct_ty (b := b) (by omega) rfl) fl_Model_45 fr_Model_18 d_Model_init_98 ?_
  rw [ct_r_set (lr_Model_18 b)]
  show dz_V κ 11 7652 (b + 142) (ct_s b 142) (ct_r b (ct_a (ct_a (ct_a (ct_a (ct_a (ct_a (ct_a (ct_a (ct_a (ct_a (ct_a α (b + 130) 4) (b + 130) 6) (b + 130) 7) (b + 130) 8) (b + 130) 9) (b + 130) 10) (b + 130) 13) (b + 130) 14) (b + 130) 15) (b + 130) 16) (b + 130) 18)) (dz_up I (b + 130) 11 (-1)) 101 [(0, .ref (b + 130)), (1, .int (dz_i w)), (2, .int (dz_i h))] []
  refine dz_aload_n x.1 0 d_Model_init_101 rfl rfl ?_
  refine dz_bipush x.1 d_Model_init_102 (by decide) ?_
  refine ct_newa x.1 rm 0 40 (by decide) rfl (by decide) al_int (ct_z_a (ct_z_s (ct_z_a (ct_z_s (ct_z_a (ct_z_s (ct_z_a (ct_z_s (ct_z_a (ct_z_s (ct_z_up (ct_z_a (ct_z_s (ct_z_a (ct_z_s (ct_z_a (ct_z_s (ct_z_a (ct_z_s (ct_z_a (ct_z_s (ct_z_a (ct_z_s hZ) (by omega))) (by omega))) (by omega))) (by omega))) (by omega))) (by omega)) (by omega))) (by omega))) (by omega))) (by omega))) (by omega))) (by omega)) d_Model_init_104 (by omega) (by omega) ?_
  show dz_V κ 12 7692 (b + 143) (ct_s b 143) (ct_r b (ct_a (ct_a (ct_a (ct_a (ct_a (ct_a (ct_a (ct_a (ct_a (ct_a (ct_a α (b + 130) 4) (b + 130) 6) (b + 130) 7) (b + 130) 8) (b + 130) 9) (b + 130) 10) (b + 130) 13) (b + 130) 14) (b + 130) 15) (b + 130) 16) (b + 130) 18)) (dz_up I (b + 130) 11 (-1)) 106 [(0, .ref (b + 130)), (1, .int (dz_i w)), (2, .int (dz_i h))] [.ref (b + 142), .ref (b + 130)]
  refine dz_putr x.1 (ct_ty (b := b) (by omega) rfl) fl_Model_48 fr_Model_20 d_Model_init_106 ?_
  rw [ct_r_set (lr_Model_20 b)]
  show dz_V κ 12 7692 (b + 143) (ct_s b 143) (ct_r b (ct_a (ct_a (ct_a (ct_a (ct_a (ct_a (ct_a (ct_a (ct_a (ct_a (ct_a (ct_a α (b + 130) 4) (b + 130) 6) (b + 130) 7) (b + 130) 8) (b + 130) 9) (b + 130) 10) (b + 130) 13) (b + 130) 14) (b + 130) 15) (b + 130) 16) (b + 130) 18) (b + 130) 20)) (dz_up I (b + 130) 11 (-1)) 109 [(0, .ref (b + 130)), (1, .int (dz_i w)), (2, .int (dz_i h))] []
  refine dz_aload_n x.1 0 d_Model_init_109 rfl rfl ?_
  refine dz_bipush x.1 d_Model_init_110 (by decide) ?_
  refine ct_newa x.1 rm 0 40 (by decide) rfl (by decide) al_int (ct_z_a (ct_z_s (ct_z_a (ct_z_s (ct_z_a (ct_z_s (ct_z_a (ct_z_s (ct_z_a (ct_z_s (ct_z_a (ct_z_s (ct_z_up (ct_z_a (ct_z_s (ct_z_a (ct_z_s (ct_z_a (ct_z_s (ct_z_a (ct_z_s (ct_z_a (ct_z_s (ct_z_a (ct_z_s hZ) (by omega))) (by omega))) (by omega))) (by omega))) (by omega))) (by omega)) (by omega))) (by omega))) (by omega))) (by omega))) (by omega))) (by omega))) (by omega)) d_Model_init_112 (by omega) (by omega) ?_
  show dz_V κ 13 7732 (b + 144) (ct_s b 144) (ct_r b (ct_a (ct_a (ct_a (ct_a (ct_a (ct_a (ct_a (ct_a (ct_a (ct_a (ct_a (ct_a α (b + 130) 4) (b + 130) 6) (b + 130) 7) (b + 130) 8) (b + 130) 9) (b + 130) 10) (b + 130) 13) (b + 130) 14) (b + 130) 15) (b + 130) 16) (b + 130) 18) (b + 130) 20)) (dz_up I (b + 130) 11 (-1)) 114 [(0, .ref (b + 130)), (1, .int (dz_i w)), (2, .int (dz_i h))] [.ref (b + 143), .ref (b + 130)]
  refine dz_putr x.1 (ct_ty (b := b) (by omega) rfl) fl_Model_51 fr_Model_26 d_Model_init_114 ?_
  rw [ct_r_set (lr_Model_26 b)]
  show dz_V κ 13 7732 (b + 144) (ct_s b 144) (ct_r b (ct_a (ct_a (ct_a (ct_a (ct_a (ct_a (ct_a (ct_a (ct_a (ct_a (ct_a (ct_a (ct_a α (b + 130) 4) (b + 130) 6) (b + 130) 7) (b + 130) 8) (b + 130) 9) (b + 130) 10) (b + 130) 13) (b + 130) 14) (b + 130) 15) (b + 130) 16) (b + 130) 18) (b + 130) 20) (b + 130) 26)) (dz_up I (b + 130) 11 (-1)) 117 [(0, .ref (b + 130)), (1, .int (dz_i w)), (2, .int (dz_i h))] []
  refine dz_aload_n x.1 0 d_Model_init_117 rfl rfl ?_
  refine dz_bipush x.1 d_Model_init_118 (by decide) ?_
  refine ct_newa x.1 rm 0 12 (by decide) rfl (by decide) al_int (ct_z_a (ct_z_s (ct_z_a (ct_z_s (ct_z_a (ct_z_s (ct_z_a (ct_z_s (ct_z_a (ct_z_s (ct_z_a (ct_z_s (ct_z_a (ct_z_s (ct_z_up (ct_z_a (ct_z_s (ct_z_a (ct_z_s (ct_z_a (ct_z_s (ct_z_a (ct_z_s (ct_z_a (ct_z_s (ct_z_a (ct_z_s hZ) (by omega))) (by omega))) (by omega))) (by omega))) (by omega))) (by omega)) (by omega))) (by omega))) (by omega))) (by omega))) (by omega))) (by omega))) (by omega))) (by omega)) d_Model_init_120 (by omega) (by omega) ?_
  show dz_V κ 14 7744 (b + 145) (ct_s b 145) (ct_r b (ct_a (ct_a (ct_a (ct_a (ct_a (ct_a (ct_a (ct_a (ct_a (ct_a (ct_a (ct_a (ct_a α (b + 130) 4) (b + 130) 6) (b + 130) 7) (b + 130) 8) (b + 130) 9) (b + 130) 10) (b + 130) 13) (b + 130) 14) (b + 130) 15) (b + 130) 16) (b + 130) 18) (b + 130) 20) (b + 130) 26)) (dz_up I (b + 130) 11 (-1)) 122 [(0, .ref (b + 130)), (1, .int (dz_i w)), (2, .int (dz_i h))] [.ref (b + 144), .ref (b + 130)]
  refine dz_putr x.1 (ct_ty (b := b) (by omega) rfl) fl_Model_54 fr_Model_27 d_Model_init_122 ?_
  rw [ct_r_set (lr_Model_27 b)]
  show dz_V κ 14 7744 (b + 145) (ct_s b 145) (ct_r b (ct_a (ct_a (ct_a (ct_a (ct_a (ct_a (ct_a (ct_a (ct_a (ct_a (ct_a (ct_a (ct_a (ct_a α (b + 130) 4) (b + 130) 6) (b + 130) 7) (b + 130) 8) (b + 130) 9) (b + 130) 10) (b + 130) 13) (b + 130) 14) (b + 130) 15) (b + 130) 16) (b + 130) 18) (b + 130) 20) (b + 130) 26) (b + 130) 27)) (dz_up I (b + 130) 11 (-1)) 125 [(0, .ref (b + 130)), (1, .int (dz_i w)), (2, .int (dz_i h))] []
  have k149 : dz_V κ 14 7744 (b + 145) (ct_s b 145) (ct_r b (ct_a (ct_a (ct_a (ct_a (ct_a (ct_a (ct_a (ct_a (ct_a (ct_a (ct_a (ct_a (ct_a (ct_a α (b + 130) 4) (b + 130) 6) (b + 130) 7) (b + 130) 8) (b + 130) 9) (b + 130) 10) (b + 130) 13) (b + 130) 14) (b + 130) 15) (b + 130) 16) (b + 130) 18) (b + 130) 20) (b + 130) 26) (b + 130) 27)) (dz_up I (b + 130) 11 (-1)) 149 [(0, .ref (b + 130)), (1, .int (dz_i w)), (2, .int (dz_i h))] [.int (dz_i (sp_clamp 10 40 w)), .ref (b + 130)] := by
    refine dz_puti x.1 (ct_ty (b := b) (by omega) rfl) fl_Model_57 fp_Model_1 d_Model_init_149 ?_
    have k174 : dz_V κ 14 7744 (b + 145) (ct_s b 145) (ct_r b (ct_a (ct_a (ct_a (ct_a (ct_a (ct_a (ct_a (ct_a (ct_a (ct_a (ct_a (ct_a (ct_a (ct_a α (b + 130) 4) (b + 130) 6) (b + 130) 7) (b + 130) 8) (b + 130) 9) (b + 130) 10) (b + 130) 13) (b + 130) 14) (b + 130) 15) (b + 130) 16) (b + 130) 18) (b + 130) 20) (b + 130) 26) (b + 130) 27)) (dz_up (dz_up I (b + 130) 11 (-1)) (b + 130) 1 (sp_clamp 10 40 w)) 174 [(0, .ref (b + 130)), (1, .int (dz_i w)), (2, .int (dz_i h))] [.int (dz_i (sp_clamp 4 20 h)), .ref (b + 130)] := by
      refine dz_puti x.1 (ct_ty (b := b) (by omega) rfl) fl_Model_60 fp_Model_2 d_Model_init_174 ?_
      exact dz_vret x.1 rt d_Model_init_177 ⟨rfl, rfl, rfl, rfl, rfl⟩
    refine dz_aload_n x.1 0 d_Model_init_152 rfl rfl ?_
    refine dz_iload_n x.1 2 d_Model_init_153 rfl rfl ?_
    refine dz_iconst x.1 d_Model_init_154 ?_
    refine dz_icmp_ge (tgt := 162) x.1 d_Model_init_155 (by decide) (by omega) (by omega) (fun hc1 => ?_) (fun hc1 => ?_)
    · refine dz_iload_n x.1 2 d_Model_init_162 rfl rfl ?_
      refine dz_bipush x.1 d_Model_init_163 (by decide) ?_
      refine dz_icmp_le (tgt := 173) x.1 d_Model_init_165 (by decide) (by omega) (by omega) (fun hc2 => ?_) (fun hc2 => ?_)
      · refine dz_iload_n x.1 2 d_Model_init_173 rfl rfl ?_
        rw [show sp_clamp 4 20 h = h by unfold sp_clamp; (repeat (first | rw [if_pos (by omega)] | rw [if_neg (by omega)]))] at k174
        exact k174
      · refine dz_bipush x.1 d_Model_init_168 (by decide) ?_
        refine dz_goto (tgt := 174) x.1 d_Model_init_170 (by decide) ?_
        rw [show sp_clamp 4 20 h = 20 by unfold sp_clamp; (repeat (first | rw [if_pos (by omega)] | rw [if_neg (by omega)]))] at k174
        exact k174
    · refine dz_iconst x.1 d_Model_init_158 ?_
      refine dz_goto (tgt := 174) x.1 d_Model_init_159 (by decide) ?_
      rw [show sp_clamp 4 20 h = 4 by unfold sp_clamp; (repeat (first | rw [if_pos (by omega)] | rw [if_neg (by omega)]))] at k174
      exact k174
  refine dz_aload_n x.1 0 d_Model_init_125 rfl rfl ?_
  refine dz_iload_n x.1 1 d_Model_init_126 rfl rfl ?_
  refine dz_bipush x.1 d_Model_init_127 (by decide) ?_
  refine dz_icmp_ge (tgt := 137) x.1 d_Model_init_129 (by decide) (by omega) (by omega) (fun hc1 => ?_) (fun hc1 => ?_)
  · refine dz_iload_n x.1 1 d_Model_init_137 rfl rfl ?_
    refine dz_bipush x.1 d_Model_init_138 (by decide) ?_
    refine dz_icmp_le (tgt := 148) x.1 d_Model_init_140 (by decide) (by omega) (by omega) (fun hc2 => ?_) (fun hc2 => ?_)
    · refine dz_iload_n x.1 1 d_Model_init_148 rfl rfl ?_
      rw [show sp_clamp 10 40 w = w by unfold sp_clamp; (repeat (first | rw [if_pos (by omega)] | rw [if_neg (by omega)]))] at k149
      exact k149
    · refine dz_bipush x.1 d_Model_init_143 (by decide) ?_
      refine dz_goto (tgt := 149) x.1 d_Model_init_145 (by decide) ?_
      rw [show sp_clamp 10 40 w = 40 by unfold sp_clamp; (repeat (first | rw [if_pos (by omega)] | rw [if_neg (by omega)]))] at k149
      exact k149
  · refine dz_bipush x.1 d_Model_init_132 (by decide) ?_
    refine dz_goto (tgt := 149) x.1 d_Model_init_134 (by decide) ?_
    rw [show sp_clamp 10 40 w = 10 by unfold sp_clamp; (repeat (first | rw [if_pos (by omega)] | rw [if_neg (by omega)]))] at k149
    exact k149
