/-! MAKING (2): references and final fields are set -/
def ct_F (own : String) (ci : Nat) (kz : Int) (fin : Bool) : Prop := ∃ (C : String) (T : u_T) (N k : Nat) (ty : FieldType), (k : Int) = kz ∧ vwCl[ci]? = some (C, T, N) ∧ parseFieldDescriptor (T k).2.2.1 = some ty ∧ (T k).2.2.2 = fin ∧ (T k).1 = own ∧ (∀ a : Nat, narrow ty (.ref a) = .ref a ∧ fits ty (.ref a) = true)
def ct_FI (own : String) (ci : Nat) (kz : Int) : Prop := ∃ (C : String) (T : u_T) (N k : Nat), (k : Int) = kz ∧ vwCl[ci]? = some (C, T, N) ∧ parseFieldDescriptor (T k).2.2.1 = some .int ∧ (T k).2.2.2 = true ∧ (T k).1 = own
theorem fr_Typed_0 : ct_F R_Typed 0 0 true := ⟨R_Typed, T_Typed, 2, 0, _, rfl, rfl, (by decide +kernel : parseFieldDescriptor _ = some (ty_Typed 0)), rfl, rfl, fun _ => ⟨rfl, rfl⟩⟩
theorem fr_RuleList_0 : ct_F R_RuleList 1 0 true := ⟨R_RuleList, T_RuleList, 3, 0, _, rfl, rfl, (by decide +kernel : parseFieldDescriptor _ = some (ty_RuleList 0)), rfl, rfl, fun _ => ⟨rfl, rfl⟩⟩
theorem fr_Rule_1 : ct_F R_Rule 2 1 true := ⟨R_Rule, T_Rule, 5, 1, _, rfl, rfl, (by decide +kernel : parseFieldDescriptor _ = some (ty_Rule 1)), rfl, rfl, fun _ => ⟨rfl, rfl⟩⟩
theorem fr_Rule_3 : ct_F R_Rule 2 3 true := ⟨R_Rule, T_Rule, 5, 3, _, rfl, rfl, (by decide +kernel : parseFieldDescriptor _ = some (ty_Rule 3)), rfl, rfl, fun _ => ⟨rfl, rfl⟩⟩
theorem fr_Translator_0 : ct_F R_Translator 3 0 true := ⟨R_Translator, T_Translator, 5, 0, _, rfl, rfl, (by decide +kernel : parseFieldDescriptor _ = some (ty_Translator 0)), rfl, rfl, fun _ => ⟨rfl, rfl⟩⟩
theorem fr_Translator_1 : ct_F R_Translator 3 1 true := ⟨R_Translator, T_Translator, 5, 1, _, rfl, rfl, (by decide +kernel : parseFieldDescriptor _ = some (ty_Translator 1)), rfl, rfl, fun _ => ⟨rfl, rfl⟩⟩
theorem fr_Reader_0 : ct_F R_Reader 4 0 true := ⟨R_Reader, T_Reader, 8, 0, _, rfl, rfl, (by decide +kernel : parseFieldDescriptor _ = some (ty_Reader 0)), rfl, rfl, fun _ => ⟨rfl, rfl⟩⟩
theorem fr_Reader_1 : ct_F R_Reader 4 1 true := ⟨R_Reader, T_Reader, 8, 1, _, rfl, rfl, (by decide +kernel : parseFieldDescriptor _ = some (ty_Reader 1)), rfl, rfl, fun _ => ⟨rfl, rfl⟩⟩
theorem fi_Book_0 : ct_FI R_Book 5 0 := ⟨R_Book, T_Book, 8, 0, rfl, rfl, by decide +kernel, rfl, rfl⟩
theorem fi_Book_1 : ct_FI R_Book 5 1 := ⟨R_Book, T_Book, 8, 1, rfl, rfl, by decide +kernel, rfl, rfl⟩
theorem fi_Book_2 : ct_FI R_Book 5 2 := ⟨R_Book, T_Book, 8, 2, rfl, rfl, by decide +kernel, rfl, rfl⟩
theorem fr_Book_3 : ct_F R_Book 5 3 true := ⟨R_Book, T_Book, 8, 3, _, rfl, rfl, (by decide +kernel : parseFieldDescriptor _ = some (ty_Book 3)), rfl, rfl, fun _ => ⟨rfl, rfl⟩⟩
theorem fr_Block_1 : ct_F R_Block 6 1 true := ⟨R_Block, T_Block, 9, 1, _, rfl, rfl, (by decide +kernel : parseFieldDescriptor _ = some (ty_Block 1)), rfl, rfl, fun _ => ⟨rfl, rfl⟩⟩
theorem fr_Block_3 : ct_F R_Block 6 3 true := ⟨R_Block, T_Block, 9, 3, _, rfl, rfl, (by decide +kernel : parseFieldDescriptor _ = some (ty_Block 3)), rfl, rfl, fun _ => ⟨rfl, rfl⟩⟩
theorem fr_Block_5 : ct_F R_Block 6 5 true := ⟨R_Block, T_Block, 9, 5, _, rfl, rfl, (by decide +kernel : parseFieldDescriptor _ = some (ty_Block 5)), rfl, rfl, fun _ => ⟨rfl, rfl⟩⟩
theorem fr_DotBook_0 : ct_F R_DotBook 7 0 true := ⟨R_DotBook, T_DotBook, 5, 0, _, rfl, rfl, (by decide +kernel : parseFieldDescriptor _ = some (ty_DotBook 0)), rfl, rfl, fun _ => ⟨rfl, rfl⟩⟩
theorem fr_DotBook_1 : ct_F R_DotBook 7 1 true := ⟨R_DotBook, T_DotBook, 5, 1, _, rfl, rfl, (by decide +kernel : parseFieldDescriptor _ = some (ty_DotBook 1)), rfl, rfl, fun _ => ⟨rfl, rfl⟩⟩
theorem fr_DotBook_2 : ct_F R_DotBook 7 2 true := ⟨R_DotBook, T_DotBook, 5, 2, _, rfl, rfl, (by decide +kernel : parseFieldDescriptor _ = some (ty_DotBook 2)), rfl, rfl, fun _ => ⟨rfl, rfl⟩⟩
theorem fr_DotBook_3 : ct_F R_DotBook 7 3 true := ⟨R_DotBook, T_DotBook, 5, 3, _, rfl, rfl, (by decide +kernel : parseFieldDescriptor _ = some (ty_DotBook 3)), rfl, rfl, fun _ => ⟨rfl, rfl⟩⟩
theorem fr_DotBook_4 : ct_F R_DotBook 7 4 true := ⟨R_DotBook, T_DotBook, 5, 4, _, rfl, rfl, (by decide +kernel : parseFieldDescriptor _ = some (ty_DotBook 4)), rfl, rfl, fun _ => ⟨rfl, rfl⟩⟩
theorem fr_Model_4 : ct_F R_Model 8 4 false := ⟨R_Model, T_Model, 29, 4, _, rfl, rfl, (by decide +kernel : parseFieldDescriptor _ = some (ty_Model 4)), rfl, rfl, fun _ => ⟨rfl, rfl⟩⟩
theorem fr_Model_6 : ct_F R_Model 8 6 false := ⟨R_Model, T_Model, 29, 6, _, rfl, rfl, (by decide +kernel : parseFieldDescriptor _ = some (ty_Model 6)), rfl, rfl, fun _ => ⟨rfl, rfl⟩⟩
theorem fr_Model_7 : ct_F R_Model 8 7 false := ⟨R_Model, T_Model, 29, 7, _, rfl, rfl, (by decide +kernel : parseFieldDescriptor _ = some (ty_Model 7)), rfl, rfl, fun _ => ⟨rfl, rfl⟩⟩
theorem fr_Model_8 : ct_F R_Model 8 8 false := ⟨R_Model, T_Model, 29, 8, _, rfl, rfl, (by decide +kernel : parseFieldDescriptor _ = some (ty_Model 8)), rfl, rfl, fun _ => ⟨rfl, rfl⟩⟩
theorem fr_Model_9 : ct_F R_Model 8 9 false := ⟨R_Model, T_Model, 29, 9, _, rfl, rfl, (by decide +kernel : parseFieldDescriptor _ = some (ty_Model 9)), rfl, rfl, fun _ => ⟨rfl, rfl⟩⟩
theorem fr_Model_10 : ct_F R_Model 8 10 false := ⟨R_Model, T_Model, 29, 10, _, rfl, rfl, (by decide +kernel : parseFieldDescriptor _ = some (ty_Model 10)), rfl, rfl, fun _ => ⟨rfl, rfl⟩⟩
theorem fr_Model_13 : ct_F R_Model 8 13 false := ⟨R_Model, T_Model, 29, 13, _, rfl, rfl, (by decide +kernel : parseFieldDescriptor _ = some (ty_Model 13)), rfl, rfl, fun _ => ⟨rfl, rfl⟩⟩
theorem fr_Model_14 : ct_F R_Model 8 14 false := ⟨R_Model, T_Model, 29, 14, _, rfl, rfl, (by decide +kernel : parseFieldDescriptor _ = some (ty_Model 14)), rfl, rfl, fun _ => ⟨rfl, rfl⟩⟩
theorem fr_Model_15 : ct_F R_Model 8 15 false := ⟨R_Model, T_Model, 29, 15, _, rfl, rfl, (by decide +kernel : parseFieldDescriptor _ = some (ty_Model 15)), rfl, rfl, fun _ => ⟨rfl, rfl⟩⟩
theorem fr_Model_16 : ct_F R_Model 8 16 false := ⟨R_Model, T_Model, 29, 16, _, rfl, rfl, (by decide +kernel : parseFieldDescriptor _ = some (ty_Model 16)), rfl, rfl, fun _ => ⟨rfl, rfl⟩⟩
theorem fr_Model_18 : ct_F R_Model 8 18 false := ⟨R_Model, T_Model, 29, 18, _, rfl, rfl, (by decide +kernel : parseFieldDescriptor _ = some (ty_Model 18)), rfl, rfl, fun _ => ⟨rfl, rfl⟩⟩
theorem fr_Model_20 : ct_F R_Model 8 20 false := ⟨R_Model, T_Model, 29, 20, _, rfl, rfl, (by decide +kernel : parseFieldDescriptor _ = some (ty_Model 20)), rfl, rfl, fun _ => ⟨rfl, rfl⟩⟩
theorem fr_Model_26 : ct_F R_Model 8 26 false := ⟨R_Model, T_Model, 29, 26, _, rfl, rfl, (by decide +kernel : parseFieldDescriptor _ = some (ty_Model 26)), rfl, rfl, fun _ => ⟨rfl, rfl⟩⟩
theorem fr_Model_27 : ct_F R_Model 8 27 false := ⟨R_Model, T_Model, 29, 27, _, rfl, rfl, (by decide +kernel : parseFieldDescriptor _ = some (ty_Model 27)), rfl, rfl, fun _ => ⟨rfl, rfl⟩⟩
section ct_rows2
variable {κ : dz_Kx} {cc : ByteArray} {own : String} {cells slots sz : Nat} {sk : dz_Sk} {rf : dz_Rf} {I : dz_Hp} {pc : Nat} {ls : List (Nat × Value)} {st : List Value}
theorem dz_objI (am : dz_Am κ cc own) {d m0 s0 idx a : Nat} (rm : dz_Rm κ d m0 s0) (hd0 : 1 ≤ d) (hlk9 : Cond.methodLink own idx Jvm.Lib.objectInit ∈ dz_GW) (hst : (st.map fun v => v.category).sum ≤ 8) (hd : decode cc pc = .ok (.invokespecial idx, 3)) (kk : dz_V κ cells slots sz sk rf I (pc + 3) ls st) : dz_V κ cells slots sz sk rf I pc ls (.ref a :: st) := by
  obtain ⟨p, l, e, R, s, m, args, below, meth, c, Q, D, Dt, A, nL⟩ := κ
  obtain ⟨hx, hb, hml, hown, hts, hK, hA, hlk, hns⟩ := am
  obtain ⟨r1, r2, r3, r4⟩ := rm
  intro H locs la hz hW hsA hS hc hl
  exact W.objInit hx hb hown (hts _ hlk9) (hts _ oi_2) (hts _ oi_3) (g := F0 m pc la (.ref a :: st)) rfl (by rw [hml]; exact hl.1) rfl hd (by omega) (by show 2 * 0 + _ + 12 ≤ R.locals; omega) (kk H locs la hz hW hsA hS hc hl)
theorem dz_putr (am : dz_Am κ cc own) {q ci index a : Nat} {k0 : Int} (hq : sk q = some (.inr ci)) (hf : dz_Fg own index ci k0 true) (hp : ct_F own ci k0 false) (hd : decode cc pc = .ok (.putfield index, 3)) (kk : dz_V κ cells slots sz sk (dz_ur rf q k0 (some a)) I (pc + 3) ls st) : dz_V κ cells slots sz sk rf I pc ls (.ref a :: .ref q :: st) := by
  obtain ⟨p, l, e, R, s, m, args, below, meth, c, Q, D, Dt, A, nL⟩ := κ
  obtain ⟨hx, hb, hml, hown, hts, hK, hA, hlk, hns⟩ := am
  intro H locs la hz hW hsA hS hc hl
  obtain ⟨C, T, N, k, rfl, c1, c2, c3, c4, c5⟩ := hf
  obtain ⟨C', T', N', k', ty, hkk, p1, p2, p3, p4, p5⟩ := hp
  have hkk2 : k = k' := by omega
  subst hkk2
  cases c1.symm.trans p1
  obtain ⟨f1, f2, f3, f4⟩ := dz_cf ci _ c1
  have hap := va_apart (own := own) hts f1 (dz_ft ci) f3 f2 hK.1 c1
  obtain ⟨r, h1, cell, q1, q2, q3, q4⟩ := hW q _ hq
  have hr : r = (C, T, N) := Option.some.inj (h1.symm.trans c1)
  subst hr
  obtain ⟨hS1, hfc, kC, hkC, hkind⟩ := hK.1.1 ci _ c1
  obtain ⟨cf, kf, fi, f, hi, hsl⟩ := hS1 k c2
  have hlay := hts _ (f1 _ (u_in_lay c2))
  unfold u_lay at hlay
  rw [if_neg (by rw [p3]; decide)] at hlay
  have hst := (u_facts hfc hkC (u_lays hts f1 c2) hi).1
  have hi' : s.fieldFound? C (T k).2.1 (T k).2.2.1 = some (cf, kf, fi, f) := by rw [← c4]; exact hi
  have hll : k < (dz_fs (dz_fty ci) 0 (rf q) (I q)).length := by rw [dz_fs_len]; exact (List.getElem?_eq_some_iff.mp c3).1
  have fin : ∀ H1 : Heap, H1[q]? = some (cell.setSlot f.slot (.ref a)) → H1.size = H.size → (∀ x, x ≠ q → H1[x]? = H[x]?) → W p l e R s m args below meth c H1 (locs ++ [⟨q, f.slot⟩]) cells slots Q (F0 m (pc + 3) la st) := by
    intro H1 e1 e2 e3
    rw [hsl] at e1 ⊢
    exact kk H1 _ la (e2.trans hz) (dz_putc hW hq c1 c2 q2 q3 q4 hap hll (by have h9 := dz_fs_setr (rf q) (I q) (some a) (dz_fty ci) 0 k c3; rw [Nat.zero_add] at h9; rw [show dz_ur rf q k (some a) q = dz_u (rf q) k (some a) by simp [dz_ur]]; exact h9) e1 e3 (fun x hx => by simp [dz_ur, hx]) (fun _ _ => rfl)) hsA (hS.put e2 e3 (hsA _ _ hq)) hc hl
  have h6 := u_store hfc hkC hkind hlay hi p2 (v := .ref a) (p5 a).1 (p5 a).2
  rcases c5 with c5 | ⟨host, c5⟩
  · exact W.putK hx hb (f := f) ⟨hown, hts _ c5, ⟨_, _, _, hi'⟩, hst⟩ (by rw [q2]; exact h6) q1 q3 (by rw [hsl]; exact k2_hasslot (q4 k c2)) rfl rfl hd fin
  · exact va_WputK hx hb (f := f) hown (va_Nw.use rfl (hK.2.1 _ c5)) hi' hst (by rw [q2]; exact h6) q1 q3 (by rw [hsl]; exact k2_hasslot (q4 k c2)) rfl rfl hd fin
theorem dz_putrF (am : dz_Am κ cc own) {q ci index a : Nat} {k0 : Int} (hq : sk q = some (.inr ci)) (hf : dz_Fg own index ci k0 true) (hp : ct_F own ci k0 true) (hin : dz_Nm κ "<init>") (hd : decode cc pc = .ok (.putfield index, 3)) (kk : dz_V κ cells slots sz sk (dz_ur rf q k0 (some a)) I (pc + 3) ls st) : dz_V κ cells slots sz sk rf I pc ls (.ref a :: .ref q :: st) := by
  obtain ⟨p, l, e, R, s, m, args, below, meth, c, Q, D, Dt, A, nL⟩ := κ
  obtain ⟨hx, hb, hml, hown, hts, hK, hA, hlk, hns⟩ := am
  intro H locs la hz hW hsA hS hc hl
  obtain ⟨C, T, N, k, rfl, c1, c2, c3, c4, c5⟩ := hf
  obtain ⟨C', T', N', k', ty, hkk, p1, p2, p3, p4, p5⟩ := hp
  have hkk2 : k = k' := by omega
  subst hkk2
  cases c1.symm.trans p1
  obtain ⟨f1, f2, f3, f4⟩ := dz_cf ci _ c1
  have hap := va_apart (own := own) hts f1 (dz_ft ci) f3 f2 hK.1 c1
  obtain ⟨r, h1, cell, q1, q2, q3, q4⟩ := hW q _ hq
  have hr : r = (C, T, N) := Option.some.inj (h1.symm.trans c1)
  subst hr
  obtain ⟨hS1, hfc, kC, hkC, hkind⟩ := hK.1.1 ci _ c1
  obtain ⟨cf, kf, fi, f, hi, hsl⟩ := hS1 k c2
  have hlay := hts _ (f1 _ (u_in_lay c2))
  unfold u_lay at hlay
  rw [if_pos p3] at hlay
  have hst := (u_facts hfc hkC (u_lays hts f1 c2) hi).1
  have hi' : s.fieldFound? C (T k).2.1 (T k).2.2.1 = some (cf, kf, fi, f) := by rw [← c4]; exact hi
  have hll : k < (dz_fs (dz_fty ci) 0 (rf q) (I q)).length := by rw [dz_fs_len]; exact (List.getElem?_eq_some_iff.mp c3).1
  have fin : ∀ H1 : Heap, H1[q]? = some (cell.setSlot f.slot (.ref a)) → H1.size = H.size → (∀ x, x ≠ q → H1[x]? = H[x]?) → W p l e R s m args below meth c H1 (locs ++ [⟨q, f.slot⟩]) cells slots Q (F0 m (pc + 3) la st) := by
    intro H1 e1 e2 e3
    rw [hsl] at e1 ⊢
    exact kk H1 _ la (e2.trans hz) (dz_putc hW hq c1 c2 q2 q3 q4 hap hll (by have h9 := dz_fs_setr (rf q) (I q) (some a) (dz_fty ci) 0 k c3; rw [Nat.zero_add] at h9; rw [show dz_ur rf q k (some a) q = dz_u (rf q) k (some a) by simp [dz_ur]]; exact h9) e1 e3 (fun x hx => by simp [dz_ur, hx]) (fun _ _ => rfl)) hsA (hS.put e2 e3 (hsA _ _ hq)) hc hl
  have hcf : m.cls = cf := by
    obtain ⟨_, _, c', _, _, _, -, -, hf', -, -, -, hown2, -⟩ := Cond.laysFinal_spec hlay
    have e1 : c' = cf := by have := hi.symm.trans hf'; simp at this; exact this.1.symm
    rw [p4] at hown2
    rw [← e1]; exact Option.some.inj (hown.symm.trans hown2)
  have h6 := u_fits hfc hkC hkind (Or.inr hlay) hi p2 (v := .ref a) (p5 a).1 (p5 a).2
  rcases c5 with c5 | ⟨host, c5⟩
  · exact W.putFinK hx hb hown (hts _ c5) hi' hst hcf hin (by rw [q2]; exact h6) q1 q3 (by rw [hsl]; exact k2_hasslot (q4 k c2)) rfl rfl hd fin
  · refine va_Wputf hx hb hown (va_Nw.use rfl (hK.2.1 _ c5)) hi' hst (Or.inr ⟨hcf, hin⟩) q1 (by rw [q3]; exact fun h => by cases h) (by rw [hsl]; exact k2_hasslot (q4 k c2)) h6.1 (by rw [q2, q3]; exact h6.2) rfl rfl hd ?_
    have ha : q < H.size := (Array.getElem?_eq_some_iff.mp q1).1
    exact fin _ (by simp [Array.getElem?_setIfInBounds, ha]) (by simp) (fun x hx => by simp [Array.getElem?_setIfInBounds, Ne.symm hx])
theorem dz_putiF (am : dz_Am κ cc own) {q ci index : Nat} {k0 v : Int} (hq : sk q = some (.inr ci)) (hf : dz_Fg own index ci k0 false) (hp : ct_FI own ci k0) (hin : dz_Nm κ "<init>") (hd : decode cc pc = .ok (.putfield index, 3)) (kk : dz_V κ cells slots sz sk rf (dz_up I q k0 v) (pc + 3) ls st) : dz_V κ cells slots sz sk rf I pc ls (.int (dz_i v) :: .ref q :: st) := by
  obtain ⟨p, l, e, R, s, m, args, below, meth, c, Q, D, Dt, A, nL⟩ := κ
  obtain ⟨hx, hb, hml, hown, hts, hK, hA, hlk, hns⟩ := am
  intro H locs la hz hW hsA hS hc hl
  obtain ⟨C, T, N, k, rfl, c1, c2, c3, c4, c5⟩ := hf
  obtain ⟨C', T', N', k', hkk, p1, p2, p3, p4⟩ := hp
  have hkk2 : k = k' := by omega
  subst hkk2
  cases c1.symm.trans p1
  obtain ⟨f1, f2, f3, f4⟩ := dz_cf ci _ c1
  have hap := va_apart (own := own) hts f1 (dz_ft ci) f3 f2 hK.1 c1
  obtain ⟨r, h1, cell, q1, q2, q3, q4⟩ := hW q _ hq
  have hr : r = (C, T, N) := Option.some.inj (h1.symm.trans c1)
  subst hr
  obtain ⟨hS1, hfc, kC, hkC, hkind⟩ := hK.1.1 ci _ c1
  obtain ⟨cf, kf, fi, f, hi, hsl⟩ := hS1 k c2
  have hlay := hts _ (f1 _ (u_in_lay c2))
  unfold u_lay at hlay
  rw [if_pos p3] at hlay
  have hst := (u_facts hfc hkC (u_lays hts f1 c2) hi).1
  have hi' : s.fieldFound? C (T k).2.1 (T k).2.2.1 = some (cf, kf, fi, f) := by rw [← c4]; exact hi
  have hll : k < (dz_fs (dz_fty ci) 0 (rf q) (I q)).length := by rw [dz_fs_len]; exact (List.getElem?_eq_some_iff.mp c3).1
  have fin : ∀ H1 : Heap, H1[q]? = some (cell.setSlot f.slot (.int (dz_i v))) → H1.size = H.size → (∀ x, x ≠ q → H1[x]? = H[x]?) → W p l e R s m args below meth c H1 (locs ++ [⟨q, f.slot⟩]) cells slots Q (F0 m (pc + 3) la st) := by
    intro H1 e1 e2 e3
    rw [hsl] at e1 ⊢
    exact kk H1 _ la (e2.trans hz) (dz_putc hW hq c1 c2 q2 q3 q4 hap hll (by have h9 := dz_fs_seti (rf q) (I q) v (dz_fty ci) 0 k c3; rw [Nat.zero_add] at h9; rw [dz_up_q]; exact h9) e1 e3 (fun _ _ => rfl) (fun x hx => dz_up_n I _ v hx)) hsA (hS.put e2 e3 (hsA _ _ hq)) hc hl
  have hcf : m.cls = cf := by
    obtain ⟨_, _, c', _, _, _, -, -, hf', -, -, -, hown2, -⟩ := Cond.laysFinal_spec hlay
    have e1 : c' = cf := by have := hi.symm.trans hf'; simp at this; exact this.1.symm
    rw [p4] at hown2
    rw [← e1]; exact Option.some.inj (hown.symm.trans hown2)
  have h6 := u_fits hfc hkC hkind (Or.inr hlay) hi p2 (v := .int (dz_i v)) rfl rfl
  rcases c5 with c5 | ⟨host, c5⟩
  · exact W.putFinK hx hb hown (hts _ c5) hi' hst hcf hin (by rw [q2]; exact h6) q1 q3 (by rw [hsl]; exact k2_hasslot (q4 k c2)) rfl rfl hd fin
  · refine va_Wputf hx hb hown (va_Nw.use rfl (hK.2.1 _ c5)) hi' hst (Or.inr ⟨hcf, hin⟩) q1 (by rw [q3]; exact fun h => by cases h) (by rw [hsl]; exact k2_hasslot (q4 k c2)) h6.1 (by rw [q2, q3]; exact h6.2) rfl rfl hd ?_
    have ha : q < H.size := (Array.getElem?_eq_some_iff.mp q1).1
    exact fin _ (by simp [Array.getElem?_setIfInBounds, ha]) (by simp) (fun x hx => by simp [Array.getElem?_setIfInBounds, Ne.symm hx])
theorem dz_aast3 (am : dz_Am κ cc own) {q n a : Nat} {z : Int} (hq : sk q = some (.inl (3, n))) (hn : n < 2147483648) (hi : 0 ≤ z ∧ z < n) (ha : sk a = some (.inr 2)) (hd : decode cc pc = .ok (.aastore, 1)) (kk : dz_V κ cells slots sz sk (dz_ur rf q z (some a)) I (pc + 1) ls st) : dz_V κ cells slots sz sk rf I pc ls (.ref a :: .int (dz_i z) :: .ref q :: st) := by
  obtain ⟨p, l, e, R, s, m, args, below, meth, c, Q, D, Dt, A, nL⟩ := κ
  obtain ⟨hx, hb, hml, hown, hts, hK, hA, hlk, hns⟩ := am
  intro H locs la hz hW hsA hS hc hl
  have e9 : (((dz_i z).toNatClampNeg : Nat) : Int) = z := by rw [dz_cl (by omega)]; omega
  have hcell : H[q]? = some (arrV (Dt 3) n (fun j => va_rf (rf q (j : Int)))) := hW q _ hq
  obtain ⟨r', hr', cellV, g1, g2, g3, -⟩ := hW a _ ha
  have hcls := (hK.1.1 2 _ rfl).2
  obtain ⟨kA, comp, k1, k2, k3, -⟩ := (hK.1.2 3 _ rfl).2
  have hcomp : comp = D.1 2 := Option.some.inj (k3.symm.trans hcls.1)
  subst hcomp
  obtain ⟨kC, hkC, -⟩ := hcls.2
  refine W.aast hx hb hcell (fun q h => by cases h) (fun h => by cases h) k1 k2 rfl hkC ⟨by rw [dz_0, dz_lt (by omega) (by omega)]; omega, by rw [arrV_size]; omega⟩ g1 (fun q h => by rw [g3] at h; cases h) (by rw [g2]; exact hkC) (by rw [g2]; exact va_assign hcls) rfl rfl hd fun H1 e1 z1 oq => ?_
  refine kk H1 _ la (z1.trans hz) (hW.put q _ hq ?_ oq (fun x hx => by simp [dz_ur, hx]) (fun _ _ => rfl)) hsA (hS.put z1 oq (hsA _ _ hq)) hc hl
  show H1[q]? = some (arrV (Dt 3) n (fun j => va_rf (dz_ur rf q z (some a) q (j : Int))))
  rw [e1, arrV_store]
  congr 2
  funext j
  rw [show dz_ur rf q z (some a) q = dz_u (rf q) z (some a) by simp [dz_ur]]
  by_cases hj : (j : Int) = z
  · rw [hj, dz_u_s]
    have hj2 : j = (dz_i z).toNatClampNeg := by omega
    simp [updV, hj2, va_rf]
  · rw [dz_u_n _ _ hj]
    have hj2 : ¬ j = (dz_i z).toNatClampNeg := by omega
    simp [updV, hj2]
theorem dz_aast4 (am : dz_Am κ cc own) {q n a : Nat} {z : Int} (hq : sk q = some (.inl (4, n))) (hn : n < 2147483648) (hi : 0 ≤ z ∧ z < n) (ha : sk a = some (.inr 6)) (hd : decode cc pc = .ok (.aastore, 1)) (kk : dz_V κ cells slots sz sk (dz_ur rf q z (some a)) I (pc + 1) ls st) : dz_V κ cells slots sz sk rf I pc ls (.ref a :: .int (dz_i z) :: .ref q :: st) := by
  obtain ⟨p, l, e, R, s, m, args, below, meth, c, Q, D, Dt, A, nL⟩ := κ
  obtain ⟨hx, hb, hml, hown, hts, hK, hA, hlk, hns⟩ := am
  intro H locs la hz hW hsA hS hc hl
  have e9 : (((dz_i z).toNatClampNeg : Nat) : Int) = z := by rw [dz_cl (by omega)]; omega
  have hcell : H[q]? = some (arrV (Dt 4) n (fun j => va_rf (rf q (j : Int)))) := hW q _ hq
  obtain ⟨r', hr', cellV, g1, g2, g3, -⟩ := hW a _ ha
  have hcls := (hK.1.1 6 _ rfl).2
  obtain ⟨kA, comp, k1, k2, k3, -⟩ := (hK.1.2 4 _ rfl).2
  have hcomp : comp = D.1 6 := Option.some.inj (k3.symm.trans hcls.1)
  subst hcomp
  obtain ⟨kC, hkC, -⟩ := hcls.2
  refine W.aast hx hb hcell (fun q h => by cases h) (fun h => by cases h) k1 k2 rfl hkC ⟨by rw [dz_0, dz_lt (by omega) (by omega)]; omega, by rw [arrV_size]; omega⟩ g1 (fun q h => by rw [g3] at h; cases h) (by rw [g2]; exact hkC) (by rw [g2]; exact va_assign hcls) rfl rfl hd fun H1 e1 z1 oq => ?_
  refine kk H1 _ la (z1.trans hz) (hW.put q _ hq ?_ oq (fun x hx => by simp [dz_ur, hx]) (fun _ _ => rfl)) hsA (hS.put z1 oq (hsA _ _ hq)) hc hl
  show H1[q]? = some (arrV (Dt 4) n (fun j => va_rf (dz_ur rf q z (some a) q (j : Int))))
  rw [e1, arrV_store]
  congr 2
  funext j
  rw [show dz_ur rf q z (some a) q = dz_u (rf q) z (some a) by simp [dz_ur]]
  by_cases hj : (j : Int) = z
  · rw [hj, dz_u_s]
    have hj2 : j = (dz_i z).toNatClampNeg := by omega
    simp [updV, hj2, va_rf]
  · rw [dz_u_n _ _ hj]
    have hj2 : ¬ j = (dz_i z).toNatClampNeg := by omega
    simp [updV, hj2]
end ct_rows2
