/-! rows of the law alone: i2c of any int, & 15, two equal ints compared; the invariant of the law's loop -/
theorem dz_nn {q : Int32} (n : Nat) (h : q.toBitVec.toNat < n) (hn : n ≤ 65536) : 0 ≤ q.toInt ∧ q.toInt < (n : Int) := by
  have e : q.toInt = (q.toBitVec.toNat : Int) := by
    show q.toBitVec.toInt = _
    exact BitVec.toInt_eq_toNat_of_lt (by omega)
  omega
def sp_ch (v : Int) : Int := ((dz_i v).toUInt32 % 65536).toInt32.toInt
theorem sp_ch_rng (v : Int) : 0 ≤ sp_ch v ∧ sp_ch v < 65536 := by
  refine dz_nn 65536 ?_ (by omega)
  show ((dz_i v).toUInt32 % 65536).toNat < 65536
  rw [UInt32.toNat_mod]
  exact Nat.mod_lt _ (by decide)
def sp_an (v : Int) : Int := (dz_i v &&& dz_i 15).toInt
theorem sp_an_rng (v : Int) : 0 ≤ sp_an v ∧ sp_an v < 16 := by
  refine dz_nn 16 ?_ (by omega)
  show ((dz_i v).toBitVec &&& (dz_i 15).toBitVec).toNat < 16
  rw [BitVec.toNat_and]
  have h15 : (dz_i 15).toBitVec.toNat = 15 := by decide
  rw [h15]
  exact Nat.lt_succ_of_le Nat.and_le_right
section lw_rows
variable {κ : dz_Kx} {cc : ByteArray} {own : String} {cells slots sz : Nat} {sk : dz_Sk} {rf : dz_Rf} {I : dz_Hp} {pc : Nat} {ls : List (Nat × Value)} {st : List Value}
theorem dz_i2cG (am : dz_Am κ cc own) {v : Int} (hd : decode cc pc = .ok (.i2c, 1)) (k : dz_V κ cells slots sz sk rf I (pc + 1) ls (.int (dz_i (sp_ch v)) :: st)) : dz_V κ cells slots sz sk rf I pc ls (.int (dz_i v) :: st) := by
  obtain ⟨p, l, e, R, s, m, args, below, meth, c, Q, D, Dt, A, nL⟩ := κ
  obtain ⟨hx, hb, hml, hown, hts, hK, hA, hlk, hns⟩ := am
  intro H locs la hz hW hsA hS hc hl
  exact lv_i2c hx hb hd (dz_of _) (k H locs la hz hW hsA hS hc hl)
theorem dz_icmpS (am : dz_Am κ cc own) {v : Int} {off : Int} {tgt : Nat} (hd : decode cc pc = .ok (.if_icmp .eq off, 3)) (ht : (pc : Int) + off = (tgt : Int)) (kt : dz_V κ cells slots sz sk rf I tgt ls st) : dz_V κ cells slots sz sk rf I pc ls (.int (dz_i v) :: .int (dz_i v) :: st) := by
  obtain ⟨p, l, e, R, s, m, args, below, meth, c, Q, D, Dt, A, nL⟩ := κ
  obtain ⟨hx, hb, hml, hown, hts, hK, hA, hlk, hns⟩ := am
  intro H locs la hz hW hsA hS hc hl
  exact lv_icmp_eq hx hb hd ht (fun _ => kt H locs la hz hW hsA hS hc hl) (fun z => absurd rfl z)
end lw_rows
def lw_I (b : Nat) (J : dz_Hp) (W T : Int) : Prop := ∃ (n : Int) (g : Int → Int) (c : Nat) (S : Nat → sp_Ru) (w : Int) (nb : Nat) (Bk : Nat → sp_Bk) (H : List Int), sp_CL b J W T n g c S w nb Bk H ∧ sp_MO b J W T n g c S w nb Bk H
def lw_ls (b b0 : Nat) (i : Int) : List (Nat × Value) := [(0, .ref b0), (1, .ref (b + 0)), (2, .ref (b + 130)), (3, .ref (b + 145)), (4, .int (dz_i i))]
