def lw_tm (i : Nat) : Term := if i = 0 then .string "DotBook$Rule" 19 else .string "DotBook$Code" 24
set_option maxRecDepth 100000 in
set_option maxHeartbeats 4000000 in
theorem lw_known {args : Array Value} {s : State} (hts : ∀ w ∈ lw_tbl, w.before args s = true) (hgv : (Jvm.Cond.and given_1 narrow_1).before args s = true) : ∃ (D : va_G) (Dt : Nat → ClassId), dz_K D Dt (fun q => s.heap.size ≤ q) s := by
  have hT : ∀ w ∈ tables_1, w.before args s = true := fun w hw => hts w (List.mem_append_right _ hw)
  have hG : ∀ w ∈ dz_GW, w.before args s = true := fun w hw => hts w (List.mem_filter.mp hw).1
  have hs := flat_of_before _ hgv
  have hA : ∀ a : Nat, a < s.heap.size → ¬ (fun q => s.heap.size ≤ q) a := fun a ha h => by have h : s.heap.size ≤ a := h; omega
  obtain ⟨c0, i0, k0⟩ := u_known hG dz_uw_Typed (hG _ (dz_g1 32 rfl rfl : Cond.instantiable R_Typed 2 ∈ dz_GW))
  obtain ⟨c1, i1, k1⟩ := u_known hG dz_uw_RuleList (hG _ (dz_g1 49 rfl rfl : Cond.instantiable R_RuleList 3 ∈ dz_GW))
  obtain ⟨c2, i2, k2⟩ := u_known hG dz_uw_Rule (hG _ (dz_g1 56 rfl rfl : Cond.instantiable R_Rule 5 ∈ dz_GW))
  obtain ⟨c3, i3, k3⟩ := u_known hG dz_uw_Translator (hG _ (dz_g1 103 rfl rfl : Cond.instantiable R_Translator 5 ∈ dz_GW))
  obtain ⟨c4, i4, k4⟩ := u_known hG dz_uw_Reader (hG _ (dz_g1 125 rfl rfl : Cond.instantiable R_Reader 8 ∈ dz_GW))
  obtain ⟨c5, i5, k5⟩ := u_known hG dz_uw_Book (hG _ (dz_g1 158 rfl rfl : Cond.instantiable R_Book 8 ∈ dz_GW))
  obtain ⟨c6, i6, k6⟩ := u_known hG dz_uw_Block (hG _ (dz_g1 171 rfl rfl : Cond.instantiable R_Block 9 ∈ dz_GW))
  obtain ⟨c7, i7, k7⟩ := u_known hG dz_uw_DotBook (hG _ (dz_g1 24 rfl rfl : Cond.instantiable R_DotBook 5 ∈ dz_GW))
  obtain ⟨c8, i8, k8⟩ := u_known hG dz_uw_Model (hG _ (dz_g4 65 rfl rfl : Cond.instantiable R_Model 29 ∈ dz_GW))
  obtain ⟨a0, q0, p0, a01, a02, a03⟩ := Cond.arrayClass_spec (hG _ al_int)
  obtain ⟨a1, q1, p1, a11, a12, a13⟩ := Cond.arrayClass_spec (hG _ al_char)
  obtain ⟨a2, q2, p2, a21, a22, a23⟩ := Cond.arrayClass_spec (hG _ al_long)
  have o3 : (Cond.arrayOver (.object "DotBook$Rule")).before args s = true := hT _ (List.mem_append_left _ (List.mem_of_getElem? (i := 55) rfl))
  have o4 : (Cond.arrayOver (.object "DotBook$Block")).before args s = true := hT _ (List.mem_append_left _ (List.mem_of_getElem? (i := 170) rfl))
  obtain ⟨p3, a3, q3, a31, a32, a33, a34, a35⟩ := Cond.arrayOver_spec o3
  obtain ⟨p4, a4, q4, a41, a42, a43, a44, a45⟩ := Cond.arrayOver_spec o4
  obtain ⟨t300, e300, T300⟩ := va_Tof (tm := .static "DotBook$Code" "LETTER_CELLS" "[I") (ty := .int) (N := 26) (f := fun j => .int (dz_lc j)) (A := fun q => s.heap.size ≤ q) (by decide) (hs _ (by decide +kernel)) (va_eqt (hs _ (by decide +kernel))) (fun j hj => va_eqt (hs _ ((by decide +kernel : ∀ j, j < 26 → Cond.eq (.elem (.static "DotBook$Code" "LETTER_CELLS" "[I") (.int (Int32.ofNat j))) (.int (dz_lc j)) ∈ flatC (Jvm.Cond.and given_1 narrow_1)) j hj))) hA
  obtain ⟨t301, e301, T301⟩ := va_Tof (tm := .static "DotBook$Code" "MARK_CELLS" "[I") (ty := .int) (N := 8) (f := fun j => .int (dz_mc j)) (A := fun q => s.heap.size ≤ q) (by decide) (hs _ (by decide +kernel)) (va_eqt (hs _ (by decide +kernel))) (fun j hj => va_eqt (hs _ ((by decide +kernel : ∀ j, j < 8 → Cond.eq (.elem (.static "DotBook$Code" "MARK_CELLS" "[I") (.int (Int32.ofNat j))) (.int (dz_mc j)) ∈ flatC (Jvm.Cond.and given_1 narrow_1)) j hj))) hA
  obtain ⟨adK, adV, hS, hE⟩ := vk_Sof (args := args) (s := s) (N := 2) (tm := lw_tm) (len := dz_sl) (byt := dz_sb) (A := fun q => s.heap.size ≤ q)
    (by decide) (fun i hi => hs _ ((by decide +kernel : ∀ i, i < 2 → Cond.exactly (lw_tm i) "java/lang/String" ∈ flatC (Jvm.Cond.and given_1 narrow_1)) i hi))
    (fun i hi => hs _ ((by decide +kernel : ∀ i, i < 2 → Cond.eq (.field (lw_tm i) "java/lang/String" "coder" "B") (.int 0) ∈ flatC (Jvm.Cond.and given_1 narrow_1)) i hi))
    (fun i hi => hs _ ((by decide +kernel : ∀ i, i < 2 → Cond.arrayOf (.field (lw_tm i) "java/lang/String" "value" "[B") .byte ∈ flatC (Jvm.Cond.and given_1 narrow_1)) i hi))
    (fun i hi => hs _ ((by decide +kernel : ∀ i, i < 2 → Cond.eq (.length (.field (lw_tm i) "java/lang/String" "value" "[B")) (.int (Int32.ofNat (dz_sl.getD i 0))) ∈ flatC (Jvm.Cond.and given_1 narrow_1)) i hi))
    (fun i hi j hj => hs _ ((by decide +kernel : ∀ i, i < 2 → ∀ j, j < dz_sl.getD i 0 → Cond.eq (.elem (.field (lw_tm i) "java/lang/String" "value" "[B") (.int (Int32.ofNat j))) (.int ((dz_sb.getD i []).getD j 0)) ∈ flatC (Jvm.Cond.and given_1 narrow_1)) i hi j hj))
    (fun i j hi hj hij => by
      rcases (by omega : (i = 0 ∧ j = 1) ∨ (i = 1 ∧ j = 0)) with ⟨rfl, rfl⟩ | ⟨rfl, rfl⟩
      · exact Or.inl (hs _ (by decide +kernel))
      · exact Or.inr (hs _ (by decide +kernel))) hA
  obtain ⟨Dt, hDt⟩ : ∃ Dt : Nat → ClassId, Dt = fun k => if k = 0 then a0 else if k = 1 then a1 else if k = 2 then a2 else if k = 3 then a3 else if k = 4 then a4 else if k = 100 then adK 0 else if k = 101 then adK 1 else if k = 200 then adV 0 else if k = 201 then adV 1 else if k = 300 then t300 else t301 := ⟨_, rfl⟩
  have d0 : Dt 0 = a0 := by rw [hDt]; rfl
  have d1 : Dt 1 = a1 := by rw [hDt]; rfl
  have d2 : Dt 2 = a2 := by rw [hDt]; rfl
  have d3 : Dt 3 = a3 := by rw [hDt]; rfl
  have d4 : Dt 4 = a4 := by rw [hDt]; rfl
  have d300 : Dt 300 = t300 := by rw [hDt]; rfl
  have d301 : Dt 301 = t301 := by rw [hDt]; rfl
  have dK : ∀ i, i < 2 → Dt (100 + i) = adK i := fun i hi => by
    rcases (by omega : i = 0 ∨ i = 1) with rfl | rfl <;> (rw [hDt]; rfl)
  have dV : ∀ i, i < 2 → Dt (200 + i) = adV i := fun i hi => by
    rcases (by omega : i = 0 ∨ i = 1) with rfl | rfl <;> (rw [hDt]; rfl)
  refine ⟨(fun c => match c with | 0 => c0 | 1 => c1 | 2 => c2 | 3 => c3 | 4 => c4 | 5 => c5 | 6 => c6 | 7 => c7 | _ => c8, fun c => match c with | 0 => i0 | 1 => i1 | 2 => i2 | 3 => i3 | 4 => i4 | 5 => i5 | 6 => i6 | 7 => i7 | _ => i8), Dt, ⟨fun c q hq => ?_, fun k q hq => ?_⟩, fun w hw => ?_, va_AO.of o3, va_AO.of o4, va_Nc.of (hs _ (by decide +kernel)), ?_⟩
  · have hc : c < 9 := (List.getElem?_eq_some_iff.mp hq).1
    match c, hc, hq with
    | 0, _, hq => cases hq; exact k0
    | 1, _, hq => cases hq; exact k1
    | 2, _, hq => cases hq; exact k2
    | 3, _, hq => cases hq; exact k3
    | 4, _, hq => cases hq; exact k4
    | 5, _, hq => cases hq; exact k5
    | 6, _, hq => cases hq; exact k6
    | 7, _, hq => cases hq; exact k7
    | 8, _, hq => cases hq; exact k8
  · have hc : k < 5 := (List.getElem?_eq_some_iff.mp hq).1
    match k, hc, hq with
    | 0, _, hq => cases hq; rw [d0]; exact ⟨fun n z => ⟨fun k h => (by cases h), q0, a02, p0, a03⟩, a01⟩
    | 1, _, hq => cases hq; rw [d1]; exact ⟨fun n z => ⟨fun k h => (by cases h), q1, a12, p1, a13⟩, a11⟩
    | 2, _, hq => cases hq; rw [d2]; exact ⟨fun n z => ⟨fun k h => (by cases h), q2, a22, p2, a23⟩, a21⟩
    | 3, _, hq => cases hq; rw [d3]; exact ⟨fun n z => ⟨fun k h => (by cases h), q3, a33, p3, a34⟩, q3, p3, a33, a34, a31, a35⟩
    | 4, _, hq => cases hq; rw [d4]; exact ⟨fun n z => ⟨fun k h => (by cases h), q4, a43, p4, a44⟩, q4, p4, a43, a44, a41, a45⟩
  · have h1 := hT w (List.mem_filter.mp hw).1
    have h2 := (List.mem_filter.mp hw).2
    unfold dz_ns at h2
    split at h2
    · exact va_Nw.of rfl h1
    · exact va_Nw.of rfl h1
    · exact va_Nw.of rfl h1
    · exact va_Nw.of rfl h1
    · cases h2
  · refine ⟨?_, ?_, ?_, ?_, ⟨fun i hi => ?_, fun i j hi hj h => hS.2 i j hi hj (by rw [← dK i hi, ← dK j hj]; exact h)⟩, ?_, ?_, ?_, ?_, ?_, ?_⟩
    · rw [d300]; exact va_Zof (hT _ (List.mem_append_right _ (List.mem_append_right _ (List.mem_append_left _ (List.mem_of_getElem? (i := 82) rfl))))) (hG _ (dz_g1 21 rfl rfl)) e300 hA
    · rw [d300]; exact T300
    · rw [d301]; exact va_Zof (hT _ (List.mem_append_right _ (List.mem_append_right _ (List.mem_append_left _ (List.mem_of_getElem? (i := 87) rfl))))) (hG _ (dz_g1 21 rfl rfl)) e301 hA
    · rw [d301]; exact T301
    · have h := hS.1 i hi
      simp only [dK i hi, dV i hi]
      exact h
    · have h := hE 0 (by decide)
      rw [← dK 0 (by decide)] at h
      exact vk_R.of (A := args) (hT _ (List.mem_append_right _ (List.mem_append_left _ (List.mem_of_getElem? (i := 165) rfl)))) h
    · have h := hE 1 (by decide)
      rw [← dK 1 (by decide)] at h
      exact vk_R.of (A := args) (hT _ (List.mem_append_right _ (List.mem_append_right _ (List.mem_append_left _ (List.mem_of_getElem? (i := 57) rfl))))) h
    · exact va_Zof (hT _ (List.mem_append_right _ (List.mem_append_left _ (List.mem_of_getElem? (i := 180) rfl)))) (hG _ (dz_g1 16 rfl rfl)) (va_eqi (hs _ (by decide +kernel))) hA
    · exact va_Zqof (hT _ (List.mem_append_right _ (List.mem_append_left _ (List.mem_of_getElem? (i := 219) rfl)))) (hG _ (dz_g1 19 rfl rfl)) (hs _ (by decide +kernel)) hA
    · exact dz_SL.of (hT _ (List.mem_append_right _ (List.mem_append_left _ (List.mem_of_getElem? (i := 87) rfl)))) (hs _ (by decide +kernel)) hA
    · exact dz_SL.of (hT _ (List.mem_append_right _ (List.mem_append_left _ (List.mem_of_getElem? (i := 89) rfl)))) (hs _ (by decide +kernel)) hA
