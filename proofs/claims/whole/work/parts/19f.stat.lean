/-! rows on statics, texts, Math -/
def sp_lc (z : Int) : Int := ([1, 3, 9, 25, 17, 11, 27, 19, 10, 26, 5, 7, 13, 29, 21, 15, 31, 23, 14, 30, 37, 39, 58, 45, 61, 53] : List Int).getD z.toNat 0
def sp_mc (z : Int) : Int := ([50, 2, 6, 18, 38, 22, 36, 4] : List Int).getD z.toNat 0
/-- the bytes of the two texts -/
def sp_sb (i : Nat) (z : Int) : Int := ((if i = 0 then [119, 98, 109, 101, 97] else [46, 44, 59, 58, 63, 33, 45, 39]) : List Int).getD z.toNat 0
def sp_sl (i : Nat) : Nat := if i = 0 then 5 else 8
theorem sp_lc_ok : ∀ j : Nat, j < 26 → dz_lc j = dz_i (sp_lc (j : Int)) := by decide +kernel
theorem sp_mc_ok : ∀ j : Nat, j < 8 → dz_mc j = dz_i (sp_mc (j : Int)) := by decide +kernel
theorem sp_sb_ok : ∀ i : Nat, i < 2 → ∀ j : Nat, j < sp_sl i → (dz_sb.getD i []).getD j 0 = dz_i (sp_sb i (j : Int)) := by decide +kernel
theorem sp_sl_ok : ∀ i : Nat, i < 2 → dz_sl.getD i 0 = sp_sl i := by decide +kernel
def dz_D (κ : dz_Kx) : Nat → ClassId := κ.2.2.2.2.2.2.2.2.2.2.2.2.1
section dz_sta
variable {κ : dz_Kx} {cc : ByteArray} {own : String} {cells slots sz : Nat} {sk : dz_Sk} {rf : dz_Rf} {I : dz_Hp} {pc : Nat} {ls : List (Nat × Value)} {st : List Value}
theorem dz_getsL (am : dz_Am κ cc own) {index : Nat} (hf : Cond.fieldLink own index "DotBook$Code" "LETTER_CELLS" "[I" ∈ dz_GW) (hd : decode cc pc = .ok (.getstatic index, 3)) (kk : dz_V κ cells slots sz sk rf I (pc + 3) ls (.ref (dz_D κ 300) :: st)) : dz_V κ cells slots sz sk rf I pc ls st := by
  obtain ⟨p, l, e, R, s, m, args, below, meth, c, Q, D, Dt, A, nL⟩ := κ
  obtain ⟨hx, hb, hml, hown, hts, hK, hA, hlk, hns⟩ := am
  intro H locs la hz hW hsA hS hc hl
  exact va_gets hx hb hK.2.2.2.2.2.1 hS hown (hts _ hf) (fun _ h => h) hd (kk H locs la hz hW hsA hS hc hl)
theorem dz_getsM (am : dz_Am κ cc own) {index : Nat} (hf : Cond.fieldLink own index "DotBook$Code" "MARK_CELLS" "[I" ∈ dz_GW) (hd : decode cc pc = .ok (.getstatic index, 3)) (kk : dz_V κ cells slots sz sk rf I (pc + 3) ls (.ref (dz_D κ 301) :: st)) : dz_V κ cells slots sz sk rf I pc ls st := by
  obtain ⟨p, l, e, R, s, m, args, below, meth, c, Q, D, Dt, A, nL⟩ := κ
  obtain ⟨hx, hb, hml, hown, hts, hK, hA, hlk, hns⟩ := am
  intro H locs la hz hW hsA hS hc hl
  exact va_gets hx hb hK.2.2.2.2.2.2.2.1 hS hown (hts _ hf) (fun _ h => h) hd (kk H locs la hz hW hsA hS hc hl)
theorem dz_tldL (am : dz_Am κ cc own) {z : Int} (hi : 0 ≤ z ∧ z < 26) (hd : decode cc pc = .ok (.iaload, 1)) (kk : dz_V κ cells slots sz sk rf I (pc + 1) ls (.int (dz_i (sp_lc z)) :: st)) : dz_V κ cells slots sz sk rf I pc ls (.int (dz_i z) :: .ref (dz_D κ 300) :: st) := by
  obtain ⟨p, l, e, R, s, m, args, below, meth, c, Q, D, Dt, A, nL⟩ := κ
  obtain ⟨hx, hb, hml, hown, hts, hK, hA, hlk, hns⟩ := am
  intro H locs la hz hW hsA hS hc hl
  have e9 : (dz_i z).toNatClampNeg = z.toNat := dz_cl (by omega)
  have e8 : dz_lc (dz_i z).toNatClampNeg = dz_i (sp_lc z) := by
    rw [e9, sp_lc_ok _ (by omega), show ((z.toNat : Nat) : Int) = z by omega]
  exact va_ti (v := .int (dz_i (sp_lc z))) hx hb hK.2.2.2.2.2.2.1 hS (dz_in hi (by decide)) (by rw [e8]) hd (kk H locs la hz hW hsA hS hc hl)
theorem dz_tldM (am : dz_Am κ cc own) {z : Int} (hi : 0 ≤ z ∧ z < 8) (hd : decode cc pc = .ok (.iaload, 1)) (kk : dz_V κ cells slots sz sk rf I (pc + 1) ls (.int (dz_i (sp_mc z)) :: st)) : dz_V κ cells slots sz sk rf I pc ls (.int (dz_i z) :: .ref (dz_D κ 301) :: st) := by
  obtain ⟨p, l, e, R, s, m, args, below, meth, c, Q, D, Dt, A, nL⟩ := κ
  obtain ⟨hx, hb, hml, hown, hts, hK, hA, hlk, hns⟩ := am
  intro H locs la hz hW hsA hS hc hl
  have e9 : (dz_i z).toNatClampNeg = z.toNat := dz_cl (by omega)
  have e8 : dz_mc (dz_i z).toNatClampNeg = dz_i (sp_mc z) := by
    rw [e9, sp_mc_ok _ (by omega), show ((z.toNat : Nat) : Int) = z by omega]
  exact va_ti (v := .int (dz_i (sp_mc z))) hx hb hK.2.2.2.2.2.2.2.2.1 hS (dz_in hi (by decide)) (by rw [e8]) hd (kk H locs la hz hW hsA hS hc hl)
theorem dz_tlnL (am : dz_Am κ cc own) (hd : decode cc pc = .ok (.arraylength, 1)) (kk : dz_V κ cells slots sz sk rf I (pc + 1) ls (.int (dz_i 26) :: st)) : dz_V κ cells slots sz sk rf I pc ls (.ref (dz_D κ 300) :: st) := by
  obtain ⟨p, l, e, R, s, m, args, below, meth, c, Q, D, Dt, A, nL⟩ := κ
  obtain ⟨hx, hb, hml, hown, hts, hK, hA, hlk, hns⟩ := am
  intro H locs la hz hW hsA hS hc hl
  exact va_tlen (v := dz_i 26) hx hb hK.2.2.2.2.2.2.1 hS (by decide) hd (kk H locs la hz hW hsA hS hc hl)
theorem dz_tlnM (am : dz_Am κ cc own) (hd : decode cc pc = .ok (.arraylength, 1)) (kk : dz_V κ cells slots sz sk rf I (pc + 1) ls (.int (dz_i 8) :: st)) : dz_V κ cells slots sz sk rf I pc ls (.ref (dz_D κ 301) :: st) := by
  obtain ⟨p, l, e, R, s, m, args, below, meth, c, Q, D, Dt, A, nL⟩ := κ
  obtain ⟨hx, hb, hml, hown, hts, hK, hA, hlk, hns⟩ := am
  intro H locs la hz hW hsA hS hc hl
  exact va_tlen (v := dz_i 8) hx hb hK.2.2.2.2.2.2.2.2.1 hS (by decide) hd (kk H locs la hz hW hsA hS hc hl)
/-- the text i as a String's bytes -/
theorem dz_str (am : dz_Am κ cc own) {i : Nat} (hi : i < 2) : match κ with | (_, _, _, _, s, _, _, _, _, _, _, _, Dt, A, _) => va_OF "java/lang/String" "coder" "B" (.int 0) (Dt (100 + i)) A s s.heap ∧ va_OF "java/lang/String" "value" "[B" (.ref (Dt (200 + i))) (Dt (100 + i)) A s s.heap ∧ va_T .byte (Dt (200 + i)) (sp_sl i) (fun j => .int ((dz_sb.getD i []).getD j 0)) A s s.heap := by
  obtain ⟨p, l, e, R, s, m, args, below, meth, c, Q, D, Dt, A, nL⟩ := κ
  obtain ⟨hx, hb, hml, hown, hts, hK, hA, hlk, hns⟩ := am
  obtain ⟨-, h2, h3, h4⟩ := hK.2.2.2.2.2.2.2.2.2.1.1 i hi
  rw [sp_sl_ok i hi] at h4
  exact ⟨h2, h3, h4⟩
theorem dz_gfv (am : dz_Am κ cc own) {i index : Nat} (hi : i < 2) (hf : Cond.fieldLink own index "java/lang/String" "value" "[B" ∈ dz_GW) (hd : decode cc pc = .ok (.getfield index, 3)) (kk : dz_V κ cells slots sz sk rf I (pc + 3) ls (.ref (dz_D κ (200 + i)) :: st)) : dz_V κ cells slots sz sk rf I pc ls (.ref (dz_D κ (100 + i)) :: st) := by
  have h0 := dz_str am hi
  obtain ⟨p, l, e, R, s, m, args, below, meth, c, Q, D, Dt, A, nL⟩ := κ
  obtain ⟨hx, hb, hml, hown, hts, hK, hA, hlk, hns⟩ := am
  intro H locs la hz hW hsA hS hc hl
  exact vk_getf hx hb h0.2.1 hS hown (hts _ hf) (fun _ h => h) hd (kk H locs la hz hW hsA hS hc hl)
theorem dz_gfc (am : dz_Am κ cc own) {i index : Nat} (hi : i < 2) (hf : Cond.fieldLink own index "java/lang/String" "coder" "B" ∈ dz_GW) (hd : decode cc pc = .ok (.getfield index, 3)) (kk : dz_V κ cells slots sz sk rf I (pc + 3) ls (.int (dz_i 0) :: st)) : dz_V κ cells slots sz sk rf I pc ls (.ref (dz_D κ (100 + i)) :: st) := by
  have h0 := dz_str am hi
  obtain ⟨p, l, e, R, s, m, args, below, meth, c, Q, D, Dt, A, nL⟩ := κ
  obtain ⟨hx, hb, hml, hown, hts, hK, hA, hlk, hns⟩ := am
  intro H locs la hz hW hsA hS hc hl
  exact vk_getf hx hb h0.1 hS hown (hts _ hf) (fun _ h => h) hd (kk H locs la hz hW hsA hS hc hl)
theorem dz_getsC (am : dz_Am κ cc own) {index : Nat} (hf : Cond.fieldLink own index "java/lang/String" "COMPACT_STRINGS" "Z" ∈ dz_GW) (hd : decode cc pc = .ok (.getstatic index, 3)) (kk : dz_V κ cells slots sz sk rf I (pc + 3) ls (.int (dz_i 1) :: st)) : dz_V κ cells slots sz sk rf I pc ls st := by
  obtain ⟨p, l, e, R, s, m, args, below, meth, c, Q, D, Dt, A, nL⟩ := κ
  obtain ⟨hx, hb, hml, hown, hts, hK, hA, hlk, hns⟩ := am
  intro H locs la hz hW hsA hS hc hl
  exact va_gets (v := .int (dz_i 1)) hx hb hK.2.2.2.2.2.2.2.2.2.2.2.2.1 hS hown (hts _ hf) (fun _ h => h) hd (kk H locs la hz hW hsA hS hc hl)
theorem dz_tbl (am : dz_Am κ cc own) {i : Nat} (hi : i < 2) {z : Int} (hz0 : 0 ≤ z ∧ z < sp_sl i) (hd : decode cc pc = .ok (.baload, 1)) (kk : dz_V κ cells slots sz sk rf I (pc + 1) ls (.int (dz_i (sp_sb i z)) :: st)) : dz_V κ cells slots sz sk rf I pc ls (.int (dz_i z) :: .ref (dz_D κ (200 + i)) :: st) := by
  have h0 := dz_str am hi
  obtain ⟨p, l, e, R, s, m, args, below, meth, c, Q, D, Dt, A, nL⟩ := κ
  obtain ⟨hx, hb, hml, hown, hts, hK, hA, hlk, hns⟩ := am
  intro H locs la hz hW hsA hS hc hl
  have hb8 : sp_sl i < 9 := by unfold sp_sl; split <;> omega
  have e9 : (dz_i z).toNatClampNeg = z.toNat := dz_cl (by omega)
  have e8 : (dz_sb.getD i []).getD (dz_i z).toNatClampNeg 0 = dz_i (sp_sb i z) := by
    rw [e9, sp_sb_ok i hi _ (by omega), show ((z.toNat : Nat) : Int) = z by omega]
  exact va_tb (v := .int (dz_i (sp_sb i z))) hx hb h0.2.2 hS (dz_in hz0 (by omega)) (by rw [e8]) hd (kk H locs la hz hW hsA hS hc hl)
theorem dz_tbn (am : dz_Am κ cc own) {i : Nat} (hi : i < 2) (hd : decode cc pc = .ok (.arraylength, 1)) (kk : dz_V κ cells slots sz sk rf I (pc + 1) ls (.int (dz_i (sp_sl i : Nat)) :: st)) : dz_V κ cells slots sz sk rf I pc ls (.ref (dz_D κ (200 + i)) :: st) := by
  have h0 := dz_str am hi
  obtain ⟨p, l, e, R, s, m, args, below, meth, c, Q, D, Dt, A, nL⟩ := κ
  obtain ⟨hx, hb, hml, hown, hts, hK, hA, hlk, hns⟩ := am
  intro H locs la hz hW hsA hS hc hl
  exact va_tlen (v := dz_i (sp_sl i : Nat)) hx hb h0.2.2 hS (by unfold dz_i; rw [Int32.ofInt_eq_ofNat]) hd (kk H locs la hz hW hsA hS hc hl)
theorem dz_ldc0 (am : dz_Am κ cc "DotBook$Rule") (hd : decode cc pc = .ok (.ldc 19, 2)) (kk : dz_V κ cells slots sz sk rf I (pc + 2) ls (.ref (dz_D κ 100) :: st)) : dz_V κ cells slots sz sk rf I pc ls st := by
  obtain ⟨p, l, e, R, s, m, args, below, meth, c, Q, D, Dt, A, nL⟩ := κ
  obtain ⟨hx, hb, hml, hown, hts, hK, hA, hlk, hns⟩ := am
  intro H locs la hz hW hsA hS hc hl
  exact va_ldcS hx hb hown hK.2.2.2.2.2.2.2.2.2.2.1 hd (kk H locs la hz hW hsA hS hc hl)
theorem dz_ldc1 (am : dz_Am κ cc "DotBook$Code") (hd : decode cc pc = .ok (.ldc 24, 2)) (kk : dz_V κ cells slots sz sk rf I (pc + 2) ls (.ref (dz_D κ 101) :: st)) : dz_V κ cells slots sz sk rf I pc ls st := by
  obtain ⟨p, l, e, R, s, m, args, below, meth, c, Q, D, Dt, A, nL⟩ := κ
  obtain ⟨hx, hb, hml, hown, hts, hK, hA, hlk, hns⟩ := am
  intro H locs la hz hW hsA hS hc hl
  exact va_ldcS hx hb hown hK.2.2.2.2.2.2.2.2.2.2.2.1 hd (kk H locs la hz hW hsA hS hc hl)
end dz_sta
