section lw_turns
variable {κ : dz_Kx} {l : Launch} {D : va_G} {Dt : Nat → ClassId} {b b0 L sz cells slots : Nat} {xs : Nat → Int32} {J : dz_Hp} {i W T n : Int} {g : Int → Int} {c : Nat} {S : Nat → sp_Ru} {w : Int} {nb : Nat} {Bk : Nat → sp_Bk} {H : List Int}
set_option maxRecDepth 100000 in
set_option maxHeartbeats 4000000 in
theorem t_type (hst9 : l.stackTraces = false) (x : dz_Am κ b_Law_law R_Law ∧ True) (dd : dz_Dd κ l D Dt 7) (rm : dz_Rm κ 15 601024 7293000) (sc : dz_Sc κ b0 L xs) (hL : L ≤ 2050) (hi : 0 ≤ i ∧ i + 4 ≤ (L : Int)) (hce : cells ≤ 2000 ∧ slots ≤ 100000) (CI : sp_CL b J W T n g c S w nb Bk H) (MI : sp_MO b J W T n g c S w nb Bk H) (k9 : ∀ (sz' : Nat) (J' : dz_Hp), lw_I b J' W T → dz_V κ (cells + 1) (slots + 6) sz' (ly_s b) (ly_r b) J' 728 (lw_ls b b0 i) []) : dz_V κ cells slots sz (ly_s b) (ly_r b) J 128 (lw_ls b b0 i) [] := by
  have hN := dz_dd_N dd
  show dz_V κ cells slots sz (ly_s b) (ly_r b) J 128 [(0, .ref b0), (1, .ref (b + 0)), (2, .ref (b + 130)), (3, .ref (b + 145)), (4, .int (dz_i i))] []
  have hch := sp_ch_rng (sp_sx xs (i + 1))
  refine dz_aload_n x.1 1 d_Law_law_128 rfl rfl ?_
  refine dz_aload_n x.1 0 d_Law_law_129 rfl rfl ?_
  refine dz_iload x.1 4 d_Law_law_130 rfl ?_
  refine dz_iconst x.1 d_Law_law_132 ?_
  refine dz_iadd (z := i + 1) x.1 d_Law_law_133 (by omega) ?_
  refine dz_sld x.1 sc hL (by omega) d_Law_law_134 ?_
  have hx134 := sp_sx_rng xs (i + 1)
  refine dz_i2cG x.1 d_Law_law_135 ?_
  refine dz_aload_n x.1 3 d_Law_law_136 rfl rfl ?_
  refine dz_callSW (rest := []) x.1 dd rm cw_Law_55 (c_Law_type l hst9 D Dt b sz J W T n g c S w nb Bk H CI (sp_ch (sp_sx xs (i + 1))) hch) (by decide) (by omega) (by omega) rfl rfl (Nat.le_of_ble_eq_true rfl) d_Law_law_137 (fun v sz1 sk1 rf1 J1 hp => ?_)
  obtain ⟨hsz, rfl, rfl, hp⟩ := hp
  rcases hp with ⟨rfl, hc, hout, CJ1, FJ1⟩ | ⟨rfl, hc, CJ1, FJ1⟩ | ⟨rfl, hc, CJ1, FJ1⟩
  · have MJ1 := MI.hi (J := J1) (fun q h1 h2 => FJ1 q (fun z => by rcases z with z | z <;> omega))
    refine dz_istore (ls' := [(0, .ref b0), (1, .ref (b + 0)), (2, .ref (b + 130)), (3, .ref (b + 145)), (4, .int (dz_i i)), (5, .int (dz_i 0))]) x.1 d_Law_law_140 hN (by decide) rfl ?_
    refine dz_aload_n x.1 2 d_Law_law_142 rfl rfl ?_
    refine dz_aload_n x.1 0 d_Law_law_143 rfl rfl ?_
    refine dz_iload x.1 4 d_Law_law_144 rfl ?_
    refine dz_iconst x.1 d_Law_law_146 ?_
    refine dz_iadd (z := i + 1) x.1 d_Law_law_147 (by omega) ?_
    refine dz_sld x.1 sc hL (by omega) d_Law_law_148 ?_
    have hx148 := sp_sx_rng xs (i + 1)
    refine dz_i2cG x.1 d_Law_law_149 ?_
    refine dz_callV (rest := []) x.1 dd rm cl_Law_58 (c_Model_type l D Dt b _ J1 W T n g c S w nb Bk H MJ1 (sp_ch (sp_sx xs (i + 1))) hch) (by decide) (by omega) (by omega) (ly_Model b) rfl rfl rfl rfl (Nat.le_of_ble_eq_true rfl) d_Law_law_150 (fun v sz2 sk2 rf2 J2 hp => ?_)
    obtain ⟨rfl, rfl, rfl, hp⟩ := hp
    rcases hp with ⟨FJ2, ⟨hm, rfl, hthr, MJ2⟩ | ⟨hm, hm2, rfl, hthr, MJ2⟩ | ⟨hm, hm2, rfl, hthr, MJ2⟩⟩
    · exfalso; first | omega | exact hc hm | exact hm hc | exact hm hc.1 | exact hc.1 hm | exact hm.1 hc | exact hc hm.1 | exact hc hm.1.1
    · exfalso; first | omega | exact hc hm | exact hm hc | exact hm hc.1 | exact hc.1 hm | exact hm.1 hc | exact hc hm.1 | exact hc hm.1.1
    · have CJ2 := CJ1.lo (J := J2) (fun q hq => FJ2 q (fun z => by omega))
      have ho2 : J2 (b + 145) 0 = (n + 1) := by rw [FJ2 _ (fun z => by omega)]; exact hout
      refine dz_istore (ls' := [(0, .ref b0), (1, .ref (b + 0)), (2, .ref (b + 130)), (3, .ref (b + 145)), (4, .int (dz_i i)), (5, .int (dz_i 0)), (6, .int (dz_i (n + 1)))]) x.1 d_Law_law_153 hN (by decide) rfl ?_
      refine dz_aload_n x.1 2 d_Law_law_155 rfl rfl ?_
      refine dz_callV (rest := []) x.1 dd rm cl_Law_59 (c_Model_thrown l D Dt b _ J2 0 hthr) (by decide) (by omega) (by omega) (ly_Model b) rfl rfl rfl rfl (Nat.le_of_ble_eq_true rfl) d_Law_law_156 (fun v sz3 sk3 rf3 J3 hp => ?_)
      obtain ⟨rfl, rfl, rfl, hp⟩ := hp
      obtain ⟨rfl, hI⟩ := hp
      have hI := hI.symm
      subst hI
      refine dz_iload x.1 5 d_Law_law_159 rfl ?_
      refine dz_icmp_eq (tgt := 166) x.1 d_Law_law_161 (by decide) (by omega) (by omega) (fun hc161 => ?_) (fun hc161 => by exfalso; omega)
      refine dz_iload x.1 5 d_Law_law_166 rfl ?_
      refine dz_if_ne (tgt := 183) x.1 d_Law_law_168 (by decide) (by omega) (fun hc168 => by exfalso; omega) (fun hc168 => ?_)
      refine dz_aload_n x.1 3 d_Law_law_171 rfl rfl ?_
      refine dz_iconst x.1 d_Law_law_172 ?_
      refine dz_lald (w := (n + 1)) x.1 (ly_Out b) (by decide) (by omega) d_Law_law_173 ho2 ?_
      refine dz_iload x.1 6 d_Law_law_174 rfl ?_
      refine dz_i2l x.1 d_Law_law_176 ?_
      refine dz_lcmp x.1 d_Law_law_177 rfl ?_
      refine dz_if_eq (tgt := 183) x.1 d_Law_law_178 (by decide) (by omega) (fun hc178 => ?_) (fun hc178 => by exfalso; omega)
      refine dz_goto (tgt := 728) x.1 d_Law_law_183 (by decide) ?_
      refine dz_take 5 (ls' := [(0, .ref b0), (1, .ref (b + 0)), (2, .ref (b + 130)), (3, .ref (b + 145)), (4, .int (dz_i i))]) rfl ?_
      exact (k9 _ J2 ⟨_, _, _, _, _, _, _, _, CJ2, MJ2⟩)
  · have MJ1 := MI.hi (J := J1) (fun q h1 h2 => FJ1 q (fun z => by rcases z with z | z <;> omega))
    refine dz_istore (ls' := [(0, .ref b0), (1, .ref (b + 0)), (2, .ref (b + 130)), (3, .ref (b + 145)), (4, .int (dz_i i)), (5, .int (dz_i 1))]) x.1 d_Law_law_140 hN (by decide) rfl ?_
    refine dz_aload_n x.1 2 d_Law_law_142 rfl rfl ?_
    refine dz_aload_n x.1 0 d_Law_law_143 rfl rfl ?_
    refine dz_iload x.1 4 d_Law_law_144 rfl ?_
    refine dz_iconst x.1 d_Law_law_146 ?_
    refine dz_iadd (z := i + 1) x.1 d_Law_law_147 (by omega) ?_
    refine dz_sld x.1 sc hL (by omega) d_Law_law_148 ?_
    have hx148 := sp_sx_rng xs (i + 1)
    refine dz_i2cG x.1 d_Law_law_149 ?_
    refine dz_callV (rest := []) x.1 dd rm cl_Law_58 (c_Model_type l D Dt b _ J1 W T n g c S w nb Bk H MJ1 (sp_ch (sp_sx xs (i + 1))) hch) (by decide) (by omega) (by omega) (ly_Model b) rfl rfl rfl rfl (Nat.le_of_ble_eq_true rfl) d_Law_law_150 (fun v sz2 sk2 rf2 J2 hp => ?_)
    obtain ⟨rfl, rfl, rfl, hp⟩ := hp
    rcases hp with ⟨FJ2, ⟨hm, rfl, hthr, MJ2⟩ | ⟨hm, hm2, rfl, hthr, MJ2⟩ | ⟨hm, hm2, rfl, hthr, MJ2⟩⟩
    · have CJ2 := CJ1.lo (J := J2) (fun q hq => FJ2 q (fun z => by omega))
      refine dz_istore (ls' := [(0, .ref b0), (1, .ref (b + 0)), (2, .ref (b + 130)), (3, .ref (b + 145)), (4, .int (dz_i i)), (5, .int (dz_i 1)), (6, .int (dz_i 0))]) x.1 d_Law_law_153 hN (by decide) rfl ?_
      refine dz_aload_n x.1 2 d_Law_law_155 rfl rfl ?_
      refine dz_callV (rest := []) x.1 dd rm cl_Law_59 (c_Model_thrown l D Dt b _ J2 1 hthr) (by decide) (by omega) (by omega) (ly_Model b) rfl rfl rfl rfl (Nat.le_of_ble_eq_true rfl) d_Law_law_156 (fun v sz3 sk3 rf3 J3 hp => ?_)
      obtain ⟨rfl, rfl, rfl, hp⟩ := hp
      obtain ⟨rfl, hI⟩ := hp
      have hI := hI.symm
      subst hI
      refine dz_iload x.1 5 d_Law_law_159 rfl ?_
      refine dz_icmp_eq (tgt := 166) x.1 d_Law_law_161 (by decide) (by omega) (by omega) (fun hc161 => ?_) (fun hc161 => by exfalso; omega)
      refine dz_iload x.1 5 d_Law_law_166 rfl ?_
      refine dz_if_ne (tgt := 183) x.1 d_Law_law_168 (by decide) (by omega) (fun hc168 => ?_) (fun hc168 => by exfalso; omega)
      refine dz_goto (tgt := 728) x.1 d_Law_law_183 (by decide) ?_
      refine dz_take 5 (ls' := [(0, .ref b0), (1, .ref (b + 0)), (2, .ref (b + 130)), (3, .ref (b + 145)), (4, .int (dz_i i))]) rfl ?_
      exact (k9 _ J2 ⟨_, _, _, _, _, _, _, _, CJ2, MJ2⟩)
    · exfalso; first | omega | exact hc hm | exact hm hc | exact hm hc.1 | exact hc.1 hm | exact hm.1 hc | exact hc hm.1 | exact hc hm.1.1
    · exfalso; first | omega | exact hc hm | exact hm hc | exact hm hc.1 | exact hc.1 hm | exact hm.1 hc | exact hc hm.1 | exact hc hm.1.1
  · have MJ1 := MI.hi (J := J1) (fun q h1 h2 => FJ1 q (fun z => by rcases z with z | z <;> omega))
    refine dz_istore (ls' := [(0, .ref b0), (1, .ref (b + 0)), (2, .ref (b + 130)), (3, .ref (b + 145)), (4, .int (dz_i i)), (5, .int (dz_i 2))]) x.1 d_Law_law_140 hN (by decide) rfl ?_
    refine dz_aload_n x.1 2 d_Law_law_142 rfl rfl ?_
    refine dz_aload_n x.1 0 d_Law_law_143 rfl rfl ?_
    refine dz_iload x.1 4 d_Law_law_144 rfl ?_
    refine dz_iconst x.1 d_Law_law_146 ?_
    refine dz_iadd (z := i + 1) x.1 d_Law_law_147 (by omega) ?_
    refine dz_sld x.1 sc hL (by omega) d_Law_law_148 ?_
    have hx148 := sp_sx_rng xs (i + 1)
    refine dz_i2cG x.1 d_Law_law_149 ?_
    refine dz_callV (rest := []) x.1 dd rm cl_Law_58 (c_Model_type l D Dt b _ J1 W T n g c S w nb Bk H MJ1 (sp_ch (sp_sx xs (i + 1))) hch) (by decide) (by omega) (by omega) (ly_Model b) rfl rfl rfl rfl (Nat.le_of_ble_eq_true rfl) d_Law_law_150 (fun v sz2 sk2 rf2 J2 hp => ?_)
    obtain ⟨rfl, rfl, rfl, hp⟩ := hp
    rcases hp with ⟨FJ2, ⟨hm, rfl, hthr, MJ2⟩ | ⟨hm, hm2, rfl, hthr, MJ2⟩ | ⟨hm, hm2, rfl, hthr, MJ2⟩⟩
    · exfalso; first | omega | exact hc hm | exact hm hc | exact hm hc.1 | exact hc.1 hm | exact hm.1 hc | exact hc hm.1 | exact hc hm.1.1
    · have CJ2 := CJ1.lo (J := J2) (fun q hq => FJ2 q (fun z => by omega))
      refine dz_istore (ls' := [(0, .ref b0), (1, .ref (b + 0)), (2, .ref (b + 130)), (3, .ref (b + 145)), (4, .int (dz_i i)), (5, .int (dz_i 2)), (6, .int (dz_i 0))]) x.1 d_Law_law_153 hN (by decide) rfl ?_
      refine dz_aload_n x.1 2 d_Law_law_155 rfl rfl ?_
      refine dz_callV (rest := []) x.1 dd rm cl_Law_59 (c_Model_thrown l D Dt b _ J2 2 hthr) (by decide) (by omega) (by omega) (ly_Model b) rfl rfl rfl rfl (Nat.le_of_ble_eq_true rfl) d_Law_law_156 (fun v sz3 sk3 rf3 J3 hp => ?_)
      obtain ⟨rfl, rfl, rfl, hp⟩ := hp
      obtain ⟨rfl, hI⟩ := hp
      have hI := hI.symm
      subst hI
      refine dz_iload x.1 5 d_Law_law_159 rfl ?_
      refine dz_icmp_eq (tgt := 166) x.1 d_Law_law_161 (by decide) (by omega) (by omega) (fun hc161 => ?_) (fun hc161 => by exfalso; omega)
      refine dz_iload x.1 5 d_Law_law_166 rfl ?_
      refine dz_if_ne (tgt := 183) x.1 d_Law_law_168 (by decide) (by omega) (fun hc168 => ?_) (fun hc168 => by exfalso; omega)
      refine dz_goto (tgt := 728) x.1 d_Law_law_183 (by decide) ?_
      refine dz_take 5 (ls' := [(0, .ref b0), (1, .ref (b + 0)), (2, .ref (b + 130)), (3, .ref (b + 145)), (4, .int (dz_i i))]) rfl ?_
      exact (k9 _ J2 ⟨_, _, _, _, _, _, _, _, CJ2, MJ2⟩)
    · exfalso; first | omega | exact hc hm | exact hm hc | exact hm hc.1 | exact hc.1 hm | exact hm.1 hc | exact hc hm.1 | exact hc hm.1.1
set_option maxRecDepth 100000 in
set_option maxHeartbeats 4000000 in
theorem t_rules (hst9 : l.stackTraces = false) (x : dz_Am κ b_Law_law R_Law ∧ True) (dd : dz_Dd κ l D Dt 7) (rm : dz_Rm κ 15 601024 7293000) (sc : dz_Sc κ b0 L xs) (hL : L ≤ 2050) (hi : 0 ≤ i ∧ i + 4 ≤ (L : Int)) (hce : cells ≤ 2000 ∧ slots ≤ 100000) (CI : sp_CL b J W T n g c S w nb Bk H) (MI : sp_MO b J W T n g c S w nb Bk H) (k9 : ∀ (sz' : Nat) (J' : dz_Hp), lw_I b J' W T → dz_V κ (cells + 1) (slots + 6) sz' (ly_s b) (ly_r b) J' 728 (lw_ls b b0 i) []) : dz_V κ cells slots sz (ly_s b) (ly_r b) J 197 (lw_ls b b0 i) [] := by
  have hN := dz_dd_N dd
  show dz_V κ cells slots sz (ly_s b) (ly_r b) J 197 [(0, .ref b0), (1, .ref (b + 0)), (2, .ref (b + 130)), (3, .ref (b + 145)), (4, .int (dz_i i))] []
  obtain ⟨X, hX⟩ : ∃ X, X = sp_tk g n (n + 1).toNat 0 0 0 (-1) c S := ⟨_, rfl⟩
  have hxr := sp_sx_rng xs (i + 1)
  by_cases hz : (sp_sx xs (i + 1)) = 0
  · have hz2 := hz
    refine dz_aload_n x.1 1 d_Law_law_197 rfl rfl ?_
    refine dz_aload_n x.1 0 d_Law_law_198 rfl rfl ?_
    refine dz_iload x.1 4 d_Law_law_199 rfl ?_
    refine dz_iconst x.1 d_Law_law_201 ?_
    refine dz_iadd (z := i + 1) x.1 d_Law_law_202 (by omega) ?_
    refine dz_sld x.1 sc hL (by omega) d_Law_law_203 ?_
    have hx203 := sp_sx_rng xs (i + 1)
    refine dz_if_eq (tgt := 211) x.1 d_Law_law_204 (by decide) (by omega) (fun hc204 => ?_) (fun hc204 => by exfalso; omega)
    refine dz_iconst x.1 d_Law_law_211 ?_
    refine dz_aload_n x.1 3 d_Law_law_212 rfl rfl ?_
    refine dz_callSW (rest := []) x.1 dd rm cw_Law_67 (c_Law_rules l hst9 D Dt b sz J W T n g c S w nb Bk H CI false X hX) (by decide) (by omega) (by omega) rfl rfl (Nat.le_of_ble_eq_true rfl) d_Law_law_213 (fun v sz1 sk1 rf1 J1 hp => ?_)
    obtain ⟨hsz, rfl, rfl, hp⟩ := hp
    rcases hp with ⟨rfl, hc, hout, CJ1, FJ1⟩ | ⟨rfl, hc, CJ1, FJ1⟩
    · have MJ1 := MI.hi (J := J1) (fun q h1 h2 => FJ1 q (fun z => by rcases z with z | z <;> omega))
      refine dz_istore (ls' := [(0, .ref b0), (1, .ref (b + 0)), (2, .ref (b + 130)), (3, .ref (b + 145)), (4, .int (dz_i i)), (5, .int (dz_i 0))]) x.1 d_Law_law_216 hN (by decide) rfl ?_
      refine dz_aload_n x.1 2 d_Law_law_218 rfl rfl ?_
      refine dz_aload_n x.1 0 d_Law_law_219 rfl rfl ?_
      refine dz_iload x.1 4 d_Law_law_220 rfl ?_
      refine dz_iconst x.1 d_Law_law_222 ?_
      refine dz_iadd (z := i + 1) x.1 d_Law_law_223 (by omega) ?_
      refine dz_sld x.1 sc hL (by omega) d_Law_law_224 ?_
      have hx224 := sp_sx_rng xs (i + 1)
      refine dz_if_eq (tgt := 232) x.1 d_Law_law_225 (by decide) (by omega) (fun hc225 => ?_) (fun hc225 => by exfalso; omega)
      refine dz_iconst x.1 d_Law_law_232 ?_
      refine dz_callV (rest := []) x.1 dd rm cl_Law_70 (c_Model_rules l D Dt b _ J1 W T n g c S w nb Bk H MJ1 false X hX) (by decide) (by omega) (by omega) (ly_Model b) rfl rfl rfl rfl (Nat.le_of_ble_eq_true rfl) d_Law_law_233 (fun v sz2 sk2 rf2 J2 hp => ?_)
      obtain ⟨rfl, rfl, rfl, hp⟩ := hp
      rcases hp with ⟨FJ2, ⟨hm, rfl, hthr, MJ2⟩ | ⟨hm, rfl, hthr, MJ2⟩⟩
      · have CJ2 := CJ1.lo (J := J2) (fun q hq => FJ2 q (fun z => by omega))
        have ho2 : J2 (b + 145) 0 = (X.2.1 : Int) := by rw [FJ2 _ (fun z => by omega)]; exact hout
        refine dz_istore (ls' := [(0, .ref b0), (1, .ref (b + 0)), (2, .ref (b + 130)), (3, .ref (b + 145)), (4, .int (dz_i i)), (5, .int (dz_i 0)), (6, .int (dz_i (X.2.1 : Int)))]) x.1 d_Law_law_236 hN (by decide) rfl ?_
        refine dz_aload_n x.1 2 d_Law_law_238 rfl rfl ?_
        refine dz_callV (rest := []) x.1 dd rm cl_Law_59 (c_Model_thrown l D Dt b _ J2 0 hthr) (by decide) (by omega) (by omega) (ly_Model b) rfl rfl rfl rfl (Nat.le_of_ble_eq_true rfl) d_Law_law_239 (fun v sz3 sk3 rf3 J3 hp => ?_)
        obtain ⟨rfl, rfl, rfl, hp⟩ := hp
        obtain ⟨rfl, hI⟩ := hp
        have hI := hI.symm
        subst hI
        refine dz_iload x.1 5 d_Law_law_242 rfl ?_
        refine dz_icmp_eq (tgt := 249) x.1 d_Law_law_244 (by decide) (by omega) (by omega) (fun hc244 => ?_) (fun hc244 => by exfalso; omega)
        refine dz_iload x.1 5 d_Law_law_249 rfl ?_
        refine dz_if_ne (tgt := 266) x.1 d_Law_law_251 (by decide) (by omega) (fun hc251 => by exfalso; omega) (fun hc251 => ?_)
        refine dz_aload_n x.1 3 d_Law_law_254 rfl rfl ?_
        refine dz_iconst x.1 d_Law_law_255 ?_
        refine dz_lald (w := (X.2.1 : Int)) x.1 (ly_Out b) (by decide) (by omega) d_Law_law_256 ho2 ?_
        refine dz_iload x.1 6 d_Law_law_257 rfl ?_
        refine dz_i2l x.1 d_Law_law_259 ?_
        refine dz_lcmp x.1 d_Law_law_260 rfl ?_
        refine dz_if_eq (tgt := 266) x.1 d_Law_law_261 (by decide) (by omega) (fun hc261 => ?_) (fun hc261 => by exfalso; omega)
        refine dz_goto (tgt := 728) x.1 d_Law_law_266 (by decide) ?_
        refine dz_take 5 (ls' := [(0, .ref b0), (1, .ref (b + 0)), (2, .ref (b + 130)), (3, .ref (b + 145)), (4, .int (dz_i i))]) rfl ?_
        exact (k9 _ J2 ⟨_, _, _, _, _, _, _, _, CJ2, MJ2⟩)
      · exfalso; first | omega | exact hc hm | exact hm hc | exact hm hc.1 | exact hc.1 hm | exact hm.1 hc | exact hc hm.1 | exact hc hm.1.1
    · have MJ1 := MI.hi (J := J1) (fun q h1 h2 => FJ1 q (fun z => by rcases z with z | z <;> omega))
      refine dz_istore (ls' := [(0, .ref b0), (1, .ref (b + 0)), (2, .ref (b + 130)), (3, .ref (b + 145)), (4, .int (dz_i i)), (5, .int (dz_i 1))]) x.1 d_Law_law_216 hN (by decide) rfl ?_
      refine dz_aload_n x.1 2 d_Law_law_218 rfl rfl ?_
      refine dz_aload_n x.1 0 d_Law_law_219 rfl rfl ?_
      refine dz_iload x.1 4 d_Law_law_220 rfl ?_
      refine dz_iconst x.1 d_Law_law_222 ?_
      refine dz_iadd (z := i + 1) x.1 d_Law_law_223 (by omega) ?_
      refine dz_sld x.1 sc hL (by omega) d_Law_law_224 ?_
      have hx224 := sp_sx_rng xs (i + 1)
      refine dz_if_eq (tgt := 232) x.1 d_Law_law_225 (by decide) (by omega) (fun hc225 => ?_) (fun hc225 => by exfalso; omega)
      refine dz_iconst x.1 d_Law_law_232 ?_
      refine dz_callV (rest := []) x.1 dd rm cl_Law_70 (c_Model_rules l D Dt b _ J1 W T n g c S w nb Bk H MJ1 false X hX) (by decide) (by omega) (by omega) (ly_Model b) rfl rfl rfl rfl (Nat.le_of_ble_eq_true rfl) d_Law_law_233 (fun v sz2 sk2 rf2 J2 hp => ?_)
      obtain ⟨rfl, rfl, rfl, hp⟩ := hp
      rcases hp with ⟨FJ2, ⟨hm, rfl, hthr, MJ2⟩ | ⟨hm, rfl, hthr, MJ2⟩⟩
      · exfalso; first | omega | exact hc hm | exact hm hc | exact hm hc.1 | exact hc.1 hm | exact hm.1 hc | exact hc hm.1 | exact hc hm.1.1
      · have CJ2 := CJ1.lo (J := J2) (fun q hq => FJ2 q (fun z => by omega))
        refine dz_istore (ls' := [(0, .ref b0), (1, .ref (b + 0)), (2, .ref (b + 130)), (3, .ref (b + 145)), (4, .int (dz_i i)), (5, .int (dz_i 1)), (6, .int (dz_i 0))]) x.1 d_Law_law_236 hN (by decide) rfl ?_
        refine dz_aload_n x.1 2 d_Law_law_238 rfl rfl ?_
        refine dz_callV (rest := []) x.1 dd rm cl_Law_59 (c_Model_thrown l D Dt b _ J2 1 hthr) (by decide) (by omega) (by omega) (ly_Model b) rfl rfl rfl rfl (Nat.le_of_ble_eq_true rfl) d_Law_law_239 (fun v sz3 sk3 rf3 J3 hp => ?_)
        obtain ⟨rfl, rfl, rfl, hp⟩ := hp
        obtain ⟨rfl, hI⟩ := hp
        have hI := hI.symm
        subst hI
        refine dz_iload x.1 5 d_Law_law_242 rfl ?_
        refine dz_icmp_eq (tgt := 249) x.1 d_Law_law_244 (by decide) (by omega) (by omega) (fun hc244 => ?_) (fun hc244 => by exfalso; omega)
        refine dz_iload x.1 5 d_Law_law_249 rfl ?_
        refine dz_if_ne (tgt := 266) x.1 d_Law_law_251 (by decide) (by omega) (fun hc251 => ?_) (fun hc251 => by exfalso; omega)
        refine dz_goto (tgt := 728) x.1 d_Law_law_266 (by decide) ?_
        refine dz_take 5 (ls' := [(0, .ref b0), (1, .ref (b + 0)), (2, .ref (b + 130)), (3, .ref (b + 145)), (4, .int (dz_i i))]) rfl ?_
        exact (k9 _ J2 ⟨_, _, _, _, _, _, _, _, CJ2, MJ2⟩)
  · have hz2 := hz
    refine dz_aload_n x.1 1 d_Law_law_197 rfl rfl ?_
    refine dz_aload_n x.1 0 d_Law_law_198 rfl rfl ?_
    refine dz_iload x.1 4 d_Law_law_199 rfl ?_
    refine dz_iconst x.1 d_Law_law_201 ?_
    refine dz_iadd (z := i + 1) x.1 d_Law_law_202 (by omega) ?_
    refine dz_sld x.1 sc hL (by omega) d_Law_law_203 ?_
    have hx203 := sp_sx_rng xs (i + 1)
    refine dz_if_eq (tgt := 211) x.1 d_Law_law_204 (by decide) (by omega) (fun hc204 => by exfalso; omega) (fun hc204 => ?_)
    refine dz_iconst x.1 d_Law_law_207 ?_
    refine dz_goto (tgt := 212) x.1 d_Law_law_208 (by decide) ?_
    refine dz_aload_n x.1 3 d_Law_law_212 rfl rfl ?_
    refine dz_callSW (rest := []) x.1 dd rm cw_Law_67 (c_Law_rules l hst9 D Dt b sz J W T n g c S w nb Bk H CI true X hX) (by decide) (by omega) (by omega) rfl rfl (Nat.le_of_ble_eq_true rfl) d_Law_law_213 (fun v sz1 sk1 rf1 J1 hp => ?_)
    obtain ⟨hsz, rfl, rfl, hp⟩ := hp
    rcases hp with ⟨rfl, hc, hout, CJ1, FJ1⟩ | ⟨rfl, hc, CJ1, FJ1⟩
    · have MJ1 := MI.hi (J := J1) (fun q h1 h2 => FJ1 q (fun z => by rcases z with z | z <;> omega))
      refine dz_istore (ls' := [(0, .ref b0), (1, .ref (b + 0)), (2, .ref (b + 130)), (3, .ref (b + 145)), (4, .int (dz_i i)), (5, .int (dz_i 0))]) x.1 d_Law_law_216 hN (by decide) rfl ?_
      refine dz_aload_n x.1 2 d_Law_law_218 rfl rfl ?_
      refine dz_aload_n x.1 0 d_Law_law_219 rfl rfl ?_
      refine dz_iload x.1 4 d_Law_law_220 rfl ?_
      refine dz_iconst x.1 d_Law_law_222 ?_
      refine dz_iadd (z := i + 1) x.1 d_Law_law_223 (by omega) ?_
      refine dz_sld x.1 sc hL (by omega) d_Law_law_224 ?_
      have hx224 := sp_sx_rng xs (i + 1)
      refine dz_if_eq (tgt := 232) x.1 d_Law_law_225 (by decide) (by omega) (fun hc225 => by exfalso; omega) (fun hc225 => ?_)
      refine dz_iconst x.1 d_Law_law_228 ?_
      refine dz_goto (tgt := 233) x.1 d_Law_law_229 (by decide) ?_
      refine dz_callV (rest := []) x.1 dd rm cl_Law_70 (c_Model_rules l D Dt b _ J1 W T n g c S w nb Bk H MJ1 true X hX) (by decide) (by omega) (by omega) (ly_Model b) rfl rfl rfl rfl (Nat.le_of_ble_eq_true rfl) d_Law_law_233 (fun v sz2 sk2 rf2 J2 hp => ?_)
      obtain ⟨rfl, rfl, rfl, hp⟩ := hp
      rcases hp with ⟨FJ2, ⟨hm, rfl, hthr, MJ2⟩ | ⟨hm, rfl, hthr, MJ2⟩⟩
      · have CJ2 := CJ1.lo (J := J2) (fun q hq => FJ2 q (fun z => by omega))
        have ho2 : J2 (b + 145) 0 = (X.2.1 : Int) := by rw [FJ2 _ (fun z => by omega)]; exact hout
        refine dz_istore (ls' := [(0, .ref b0), (1, .ref (b + 0)), (2, .ref (b + 130)), (3, .ref (b + 145)), (4, .int (dz_i i)), (5, .int (dz_i 0)), (6, .int (dz_i (X.2.1 : Int)))]) x.1 d_Law_law_236 hN (by decide) rfl ?_
        refine dz_aload_n x.1 2 d_Law_law_238 rfl rfl ?_
        refine dz_callV (rest := []) x.1 dd rm cl_Law_59 (c_Model_thrown l D Dt b _ J2 0 hthr) (by decide) (by omega) (by omega) (ly_Model b) rfl rfl rfl rfl (Nat.le_of_ble_eq_true rfl) d_Law_law_239 (fun v sz3 sk3 rf3 J3 hp => ?_)
        obtain ⟨rfl, rfl, rfl, hp⟩ := hp
        obtain ⟨rfl, hI⟩ := hp
        have hI := hI.symm
        subst hI
        refine dz_iload x.1 5 d_Law_law_242 rfl ?_
        refine dz_icmp_eq (tgt := 249) x.1 d_Law_law_244 (by decide) (by omega) (by omega) (fun hc244 => ?_) (fun hc244 => by exfalso; omega)
        refine dz_iload x.1 5 d_Law_law_249 rfl ?_
        refine dz_if_ne (tgt := 266) x.1 d_Law_law_251 (by decide) (by omega) (fun hc251 => by exfalso; omega) (fun hc251 => ?_)
        refine dz_aload_n x.1 3 d_Law_law_254 rfl rfl ?_
        refine dz_iconst x.1 d_Law_law_255 ?_
        refine dz_lald (w := (X.2.1 : Int)) x.1 (ly_Out b) (by decide) (by omega) d_Law_law_256 ho2 ?_
        refine dz_iload x.1 6 d_Law_law_257 rfl ?_
        refine dz_i2l x.1 d_Law_law_259 ?_
        refine dz_lcmp x.1 d_Law_law_260 rfl ?_
        refine dz_if_eq (tgt := 266) x.1 d_Law_law_261 (by decide) (by omega) (fun hc261 => ?_) (fun hc261 => by exfalso; omega)
        refine dz_goto (tgt := 728) x.1 d_Law_law_266 (by decide) ?_
        refine dz_take 5 (ls' := [(0, .ref b0), (1, .ref (b + 0)), (2, .ref (b + 130)), (3, .ref (b + 145)), (4, .int (dz_i i))]) rfl ?_
        exact (k9 _ J2 ⟨_, _, _, _, _, _, _, _, CJ2, MJ2⟩)
      · exfalso; first | omega | exact hc hm | exact hm hc | exact hm hc.1 | exact hc.1 hm | exact hm.1 hc | exact hc hm.1 | exact hc hm.1.1
    · have MJ1 := MI.hi (J := J1) (fun q h1 h2 => FJ1 q (fun z => by rcases z with z | z <;> omega))
      refine dz_istore (ls' := [(0, .ref b0), (1, .ref (b + 0)), (2, .ref (b + 130)), (3, .ref (b + 145)), (4, .int (dz_i i)), (5, .int (dz_i 1))]) x.1 d_Law_law_216 hN (by decide) rfl ?_
      refine dz_aload_n x.1 2 d_Law_law_218 rfl rfl ?_
      refine dz_aload_n x.1 0 d_Law_law_219 rfl rfl ?_
      refine dz_iload x.1 4 d_Law_law_220 rfl ?_
      refine dz_iconst x.1 d_Law_law_222 ?_
      refine dz_iadd (z := i + 1) x.1 d_Law_law_223 (by omega) ?_
      refine dz_sld x.1 sc hL (by omega) d_Law_law_224 ?_
      have hx224 := sp_sx_rng xs (i + 1)
      refine dz_if_eq (tgt := 232) x.1 d_Law_law_225 (by decide) (by omega) (fun hc225 => by exfalso; omega) (fun hc225 => ?_)
      refine dz_iconst x.1 d_Law_law_228 ?_
      refine dz_goto (tgt := 233) x.1 d_Law_law_229 (by decide) ?_
      refine dz_callV (rest := []) x.1 dd rm cl_Law_70 (c_Model_rules l D Dt b _ J1 W T n g c S w nb Bk H MJ1 true X hX) (by decide) (by omega) (by omega) (ly_Model b) rfl rfl rfl rfl (Nat.le_of_ble_eq_true rfl) d_Law_law_233 (fun v sz2 sk2 rf2 J2 hp => ?_)
      obtain ⟨rfl, rfl, rfl, hp⟩ := hp
      rcases hp with ⟨FJ2, ⟨hm, rfl, hthr, MJ2⟩ | ⟨hm, rfl, hthr, MJ2⟩⟩
      · exfalso; first | omega | exact hc hm | exact hm hc | exact hm hc.1 | exact hc.1 hm | exact hm.1 hc | exact hc hm.1 | exact hc hm.1.1
      · have CJ2 := CJ1.lo (J := J2) (fun q hq => FJ2 q (fun z => by omega))
        refine dz_istore (ls' := [(0, .ref b0), (1, .ref (b + 0)), (2, .ref (b + 130)), (3, .ref (b + 145)), (4, .int (dz_i i)), (5, .int (dz_i 1)), (6, .int (dz_i 0))]) x.1 d_Law_law_236 hN (by decide) rfl ?_
        refine dz_aload_n x.1 2 d_Law_law_238 rfl rfl ?_
        refine dz_callV (rest := []) x.1 dd rm cl_Law_59 (c_Model_thrown l D Dt b _ J2 1 hthr) (by decide) (by omega) (by omega) (ly_Model b) rfl rfl rfl rfl (Nat.le_of_ble_eq_true rfl) d_Law_law_239 (fun v sz3 sk3 rf3 J3 hp => ?_)
        obtain ⟨rfl, rfl, rfl, hp⟩ := hp
        obtain ⟨rfl, hI⟩ := hp
        have hI := hI.symm
        subst hI
        refine dz_iload x.1 5 d_Law_law_242 rfl ?_
        refine dz_icmp_eq (tgt := 249) x.1 d_Law_law_244 (by decide) (by omega) (by omega) (fun hc244 => ?_) (fun hc244 => by exfalso; omega)
        refine dz_iload x.1 5 d_Law_law_249 rfl ?_
        refine dz_if_ne (tgt := 266) x.1 d_Law_law_251 (by decide) (by omega) (fun hc251 => ?_) (fun hc251 => by exfalso; omega)
        refine dz_goto (tgt := 728) x.1 d_Law_law_266 (by decide) ?_
        refine dz_take 5 (ls' := [(0, .ref b0), (1, .ref (b + 0)), (2, .ref (b + 130)), (3, .ref (b + 145)), (4, .int (dz_i i))]) rfl ?_
        exact (k9 _ J2 ⟨_, _, _, _, _, _, _, _, CJ2, MJ2⟩)
set_option maxRecDepth 100000 in
set_option maxHeartbeats 4000000 in
theorem t_block (hst9 : l.stackTraces = false) (x : dz_Am κ b_Law_law R_Law ∧ True) (dd : dz_Dd κ l D Dt 7) (rm : dz_Rm κ 15 601024 7293000) (sc : dz_Sc κ b0 L xs) (hL : L ≤ 2050) (hi : 0 ≤ i ∧ i + 4 ≤ (L : Int)) (hce : cells ≤ 2000 ∧ slots ≤ 100000) (CI : sp_CL b J W T n g c S w nb Bk H) (MI : sp_MO b J W T n g c S w nb Bk H) (k9 : ∀ (sz' : Nat) (J' : dz_Hp), lw_I b J' W T → dz_V κ (cells + 1) (slots + 6) sz' (ly_s b) (ly_r b) J' 728 (lw_ls b b0 i) []) : dz_V κ cells slots sz (ly_s b) (ly_r b) J 282 (lw_ls b b0 i) [] := by
  have hN := dz_dd_N dd
  show dz_V κ cells slots sz (ly_s b) (ly_r b) J 282 [(0, .ref b0), (1, .ref (b + 0)), (2, .ref (b + 130)), (3, .ref (b + 145)), (4, .int (dz_i i))] []
  have hk := sp_sx_rng xs (i + 1)
  refine dz_aload_n x.1 1 d_Law_law_282 rfl rfl ?_
  refine dz_aload_n x.1 0 d_Law_law_283 rfl rfl ?_
  refine dz_iload x.1 4 d_Law_law_284 rfl ?_
  refine dz_iconst x.1 d_Law_law_286 ?_
  refine dz_iadd (z := i + 1) x.1 d_Law_law_287 (by omega) ?_
  refine dz_sld x.1 sc hL (by omega) d_Law_law_288 ?_
  have hx288 := sp_sx_rng xs (i + 1)
  refine dz_aload_n x.1 3 d_Law_law_289 rfl rfl ?_
  refine dz_callSW (rest := []) x.1 dd rm cw_Law_75 (c_Law_block l hst9 D Dt b sz J W T n g c S w nb Bk H CI (sp_sx xs (i + 1)) hk) (by decide) (by omega) (by omega) rfl rfl (Nat.le_of_ble_eq_true rfl) d_Law_law_290 (fun v sz1 sk1 rf1 J1 hp => ?_)
  obtain ⟨hsz, rfl, rfl, hp⟩ := hp
  rcases hp with ⟨rfl, hc, hout, CJ1, FJ1⟩ | ⟨rfl, hc, CJ1, FJ1⟩ | ⟨rfl, hc, CJ1, FJ1⟩
  · have MJ1 := MI.hi (J := J1) (fun q h1 h2 => FJ1 q (fun z => by rcases z with z | z <;> omega))
    refine dz_istore (ls' := [(0, .ref b0), (1, .ref (b + 0)), (2, .ref (b + 130)), (3, .ref (b + 145)), (4, .int (dz_i i)), (5, .int (dz_i 0))]) x.1 d_Law_law_293 hN (by decide) rfl ?_
    refine dz_aload_n x.1 2 d_Law_law_295 rfl rfl ?_
    refine dz_aload_n x.1 0 d_Law_law_296 rfl rfl ?_
    refine dz_iload x.1 4 d_Law_law_297 rfl ?_
    refine dz_iconst x.1 d_Law_law_299 ?_
    refine dz_iadd (z := i + 1) x.1 d_Law_law_300 (by omega) ?_
    refine dz_sld x.1 sc hL (by omega) d_Law_law_301 ?_
    have hx301 := sp_sx_rng xs (i + 1)
    refine dz_callV (rest := []) x.1 dd rm cl_Law_78 (c_Model_block l D Dt b _ J1 W T n g c S w nb Bk H MJ1 (sp_sx xs (i + 1)) hk) (by decide) (by omega) (by omega) (ly_Model b) rfl rfl rfl rfl (Nat.le_of_ble_eq_true rfl) d_Law_law_302 (fun v sz2 sk2 rf2 J2 hp => ?_)
    obtain ⟨rfl, rfl, rfl, hp⟩ := hp
    rcases hp with ⟨FJ2, ⟨hm, rfl, hthr, MJ2⟩ | ⟨hm, hm2, rfl, hthr, MJ2⟩ | ⟨hm, hm2, rfl, hthr, MJ2⟩⟩
    · exfalso; first | omega | exact hc hm | exact hm hc | exact hm hc.1 | exact hc.1 hm | exact hm.1 hc | exact hc hm.1 | exact hc hm.1.1
    · exfalso; first | omega | exact hc hm | exact hm hc | exact hm hc.1 | exact hc.1 hm | exact hm.1 hc | exact hc hm.1 | exact hc hm.1.1
    · have CJ2 := CJ1.lo (J := J2) (fun q hq => FJ2 q (fun z => by omega))
      have ho2 : J2 (b + 145) 0 = ((nb : Int) + 1) := by rw [FJ2 _ (fun z => by omega)]; exact hout
      refine dz_istore (ls' := [(0, .ref b0), (1, .ref (b + 0)), (2, .ref (b + 130)), (3, .ref (b + 145)), (4, .int (dz_i i)), (5, .int (dz_i 0)), (6, .int (dz_i ((nb : Int) + 1)))]) x.1 d_Law_law_305 hN (by decide) rfl ?_
      refine dz_aload_n x.1 2 d_Law_law_307 rfl rfl ?_
      refine dz_callV (rest := []) x.1 dd rm cl_Law_59 (c_Model_thrown l D Dt b _ J2 0 hthr) (by decide) (by omega) (by omega) (ly_Model b) rfl rfl rfl rfl (Nat.le_of_ble_eq_true rfl) d_Law_law_308 (fun v sz3 sk3 rf3 J3 hp => ?_)
      obtain ⟨rfl, rfl, rfl, hp⟩ := hp
      obtain ⟨rfl, hI⟩ := hp
      have hI := hI.symm
      subst hI
      refine dz_iload x.1 5 d_Law_law_311 rfl ?_
      refine dz_icmp_eq (tgt := 318) x.1 d_Law_law_313 (by decide) (by omega) (by omega) (fun hc313 => ?_) (fun hc313 => by exfalso; omega)
      refine dz_iload x.1 5 d_Law_law_318 rfl ?_
      refine dz_if_ne (tgt := 335) x.1 d_Law_law_320 (by decide) (by omega) (fun hc320 => by exfalso; omega) (fun hc320 => ?_)
      refine dz_aload_n x.1 3 d_Law_law_323 rfl rfl ?_
      refine dz_iconst x.1 d_Law_law_324 ?_
      refine dz_lald (w := ((nb : Int) + 1)) x.1 (ly_Out b) (by decide) (by omega) d_Law_law_325 ho2 ?_
      refine dz_iload x.1 6 d_Law_law_326 rfl ?_
      refine dz_i2l x.1 d_Law_law_328 ?_
      refine dz_lcmp x.1 d_Law_law_329 rfl ?_
      refine dz_if_eq (tgt := 335) x.1 d_Law_law_330 (by decide) (by omega) (fun hc330 => ?_) (fun hc330 => by exfalso; omega)
      refine dz_goto (tgt := 728) x.1 d_Law_law_335 (by decide) ?_
      refine dz_take 5 (ls' := [(0, .ref b0), (1, .ref (b + 0)), (2, .ref (b + 130)), (3, .ref (b + 145)), (4, .int (dz_i i))]) rfl ?_
      exact (k9 _ J2 ⟨_, _, _, _, _, _, _, _, CJ2, MJ2⟩)
  · have MJ1 := MI.hi (J := J1) (fun q h1 h2 => FJ1 q (fun z => by rcases z with z | z <;> omega))
    refine dz_istore (ls' := [(0, .ref b0), (1, .ref (b + 0)), (2, .ref (b + 130)), (3, .ref (b + 145)), (4, .int (dz_i i)), (5, .int (dz_i 1))]) x.1 d_Law_law_293 hN (by decide) rfl ?_
    refine dz_aload_n x.1 2 d_Law_law_295 rfl rfl ?_
    refine dz_aload_n x.1 0 d_Law_law_296 rfl rfl ?_
    refine dz_iload x.1 4 d_Law_law_297 rfl ?_
    refine dz_iconst x.1 d_Law_law_299 ?_
    refine dz_iadd (z := i + 1) x.1 d_Law_law_300 (by omega) ?_
    refine dz_sld x.1 sc hL (by omega) d_Law_law_301 ?_
    have hx301 := sp_sx_rng xs (i + 1)
    refine dz_callV (rest := []) x.1 dd rm cl_Law_78 (c_Model_block l D Dt b _ J1 W T n g c S w nb Bk H MJ1 (sp_sx xs (i + 1)) hk) (by decide) (by omega) (by omega) (ly_Model b) rfl rfl rfl rfl (Nat.le_of_ble_eq_true rfl) d_Law_law_302 (fun v sz2 sk2 rf2 J2 hp => ?_)
    obtain ⟨rfl, rfl, rfl, hp⟩ := hp
    rcases hp with ⟨FJ2, ⟨hm, rfl, hthr, MJ2⟩ | ⟨hm, hm2, rfl, hthr, MJ2⟩ | ⟨hm, hm2, rfl, hthr, MJ2⟩⟩
    · have CJ2 := CJ1.lo (J := J2) (fun q hq => FJ2 q (fun z => by omega))
      refine dz_istore (ls' := [(0, .ref b0), (1, .ref (b + 0)), (2, .ref (b + 130)), (3, .ref (b + 145)), (4, .int (dz_i i)), (5, .int (dz_i 1)), (6, .int (dz_i 0))]) x.1 d_Law_law_305 hN (by decide) rfl ?_
      refine dz_aload_n x.1 2 d_Law_law_307 rfl rfl ?_
      refine dz_callV (rest := []) x.1 dd rm cl_Law_59 (c_Model_thrown l D Dt b _ J2 1 hthr) (by decide) (by omega) (by omega) (ly_Model b) rfl rfl rfl rfl (Nat.le_of_ble_eq_true rfl) d_Law_law_308 (fun v sz3 sk3 rf3 J3 hp => ?_)
      obtain ⟨rfl, rfl, rfl, hp⟩ := hp
      obtain ⟨rfl, hI⟩ := hp
      have hI := hI.symm
      subst hI
      refine dz_iload x.1 5 d_Law_law_311 rfl ?_
      refine dz_icmp_eq (tgt := 318) x.1 d_Law_law_313 (by decide) (by omega) (by omega) (fun hc313 => ?_) (fun hc313 => by exfalso; omega)
      refine dz_iload x.1 5 d_Law_law_318 rfl ?_
      refine dz_if_ne (tgt := 335) x.1 d_Law_law_320 (by decide) (by omega) (fun hc320 => ?_) (fun hc320 => by exfalso; omega)
      refine dz_goto (tgt := 728) x.1 d_Law_law_335 (by decide) ?_
      refine dz_take 5 (ls' := [(0, .ref b0), (1, .ref (b + 0)), (2, .ref (b + 130)), (3, .ref (b + 145)), (4, .int (dz_i i))]) rfl ?_
      exact (k9 _ J2 ⟨_, _, _, _, _, _, _, _, CJ2, MJ2⟩)
    · exfalso; first | omega | exact hc hm | exact hm hc | exact hm hc.1 | exact hc.1 hm | exact hm.1 hc | exact hc hm.1 | exact hc hm.1.1
    · exfalso; first | omega | exact hc hm | exact hm hc | exact hm hc.1 | exact hc.1 hm | exact hm.1 hc | exact hc hm.1 | exact hc hm.1.1
  · have MJ1 := MI.hi (J := J1) (fun q h1 h2 => FJ1 q (fun z => by rcases z with z | z <;> omega))
    refine dz_istore (ls' := [(0, .ref b0), (1, .ref (b + 0)), (2, .ref (b + 130)), (3, .ref (b + 145)), (4, .int (dz_i i)), (5, .int (dz_i 2))]) x.1 d_Law_law_293 hN (by decide) rfl ?_
    refine dz_aload_n x.1 2 d_Law_law_295 rfl rfl ?_
    refine dz_aload_n x.1 0 d_Law_law_296 rfl rfl ?_
    refine dz_iload x.1 4 d_Law_law_297 rfl ?_
    refine dz_iconst x.1 d_Law_law_299 ?_
    refine dz_iadd (z := i + 1) x.1 d_Law_law_300 (by omega) ?_
    refine dz_sld x.1 sc hL (by omega) d_Law_law_301 ?_
    have hx301 := sp_sx_rng xs (i + 1)
    refine dz_callV (rest := []) x.1 dd rm cl_Law_78 (c_Model_block l D Dt b _ J1 W T n g c S w nb Bk H MJ1 (sp_sx xs (i + 1)) hk) (by decide) (by omega) (by omega) (ly_Model b) rfl rfl rfl rfl (Nat.le_of_ble_eq_true rfl) d_Law_law_302 (fun v sz2 sk2 rf2 J2 hp => ?_)
    obtain ⟨rfl, rfl, rfl, hp⟩ := hp
    rcases hp with ⟨FJ2, ⟨hm, rfl, hthr, MJ2⟩ | ⟨hm, hm2, rfl, hthr, MJ2⟩ | ⟨hm, hm2, rfl, hthr, MJ2⟩⟩
    · exfalso; first | omega | exact hc hm | exact hm hc | exact hm hc.1 | exact hc.1 hm | exact hm.1 hc | exact hc hm.1 | exact hc hm.1.1
    · have CJ2 := CJ1.lo (J := J2) (fun q hq => FJ2 q (fun z => by omega))
      refine dz_istore (ls' := [(0, .ref b0), (1, .ref (b + 0)), (2, .ref (b + 130)), (3, .ref (b + 145)), (4, .int (dz_i i)), (5, .int (dz_i 2)), (6, .int (dz_i 0))]) x.1 d_Law_law_305 hN (by decide) rfl ?_
      refine dz_aload_n x.1 2 d_Law_law_307 rfl rfl ?_
      refine dz_callV (rest := []) x.1 dd rm cl_Law_59 (c_Model_thrown l D Dt b _ J2 2 hthr) (by decide) (by omega) (by omega) (ly_Model b) rfl rfl rfl rfl (Nat.le_of_ble_eq_true rfl) d_Law_law_308 (fun v sz3 sk3 rf3 J3 hp => ?_)
      obtain ⟨rfl, rfl, rfl, hp⟩ := hp
      obtain ⟨rfl, hI⟩ := hp
      have hI := hI.symm
      subst hI
      refine dz_iload x.1 5 d_Law_law_311 rfl ?_
      refine dz_icmp_eq (tgt := 318) x.1 d_Law_law_313 (by decide) (by omega) (by omega) (fun hc313 => ?_) (fun hc313 => by exfalso; omega)
      refine dz_iload x.1 5 d_Law_law_318 rfl ?_
      refine dz_if_ne (tgt := 335) x.1 d_Law_law_320 (by decide) (by omega) (fun hc320 => ?_) (fun hc320 => by exfalso; omega)
      refine dz_goto (tgt := 728) x.1 d_Law_law_335 (by decide) ?_
      refine dz_take 5 (ls' := [(0, .ref b0), (1, .ref (b + 0)), (2, .ref (b + 130)), (3, .ref (b + 145)), (4, .int (dz_i i))]) rfl ?_
      exact (k9 _ J2 ⟨_, _, _, _, _, _, _, _, CJ2, MJ2⟩)
    · exfalso; first | omega | exact hc hm | exact hm hc | exact hm hc.1 | exact hc.1 hm | exact hm.1 hc | exact hc hm.1 | exact hc hm.1.1
set_option maxRecDepth 100000 in
set_option maxHeartbeats 4000000 in
theorem t_size (hst9 : l.stackTraces = false) (x : dz_Am κ b_Law_law R_Law ∧ True) (dd : dz_Dd κ l D Dt 7) (rm : dz_Rm κ 15 601024 7293000) (sc : dz_Sc κ b0 L xs) (hL : L ≤ 2050) (hi : 0 ≤ i ∧ i + 4 ≤ (L : Int)) (hce : cells ≤ 2000 ∧ slots ≤ 100000) (CI : sp_CL b J W T n g c S w nb Bk H) (MI : sp_MO b J W T n g c S w nb Bk H) (k9 : ∀ (sz' : Nat) (J' : dz_Hp), lw_I b J' W T → dz_V κ (cells + 1) (slots + 6) sz' (ly_s b) (ly_r b) J' 728 (lw_ls b b0 i) []) : dz_V κ cells slots sz (ly_s b) (ly_r b) J 338 (lw_ls b b0 i) [] := by
  have hN := dz_dd_N dd
  show dz_V κ cells slots sz (ly_s b) (ly_r b) J 338 [(0, .ref b0), (1, .ref (b + 0)), (2, .ref (b + 130)), (3, .ref (b + 145)), (4, .int (dz_i i))] []
  have h1 := sp_sx_rng xs (i + 1)
  refine dz_aload_n x.1 1 d_Law_law_338 rfl rfl ?_
  refine dz_aload_n x.1 0 d_Law_law_339 rfl rfl ?_
  refine dz_iload x.1 4 d_Law_law_340 rfl ?_
  refine dz_iconst x.1 d_Law_law_342 ?_
  refine dz_iadd (z := i + 1) x.1 d_Law_law_343 (by omega) ?_
  refine dz_sld x.1 sc hL (by omega) d_Law_law_344 ?_
  have hx344 := sp_sx_rng xs (i + 1)
  refine dz_aload_n x.1 3 d_Law_law_345 rfl rfl ?_
  refine dz_callSW (rest := []) x.1 dd rm cw_Law_79 (c_Law_size l hst9 D Dt b sz J W T n g c S w nb Bk H CI (sp_sx xs (i + 1)) h1) (by decide) (by omega) (by omega) rfl rfl (Nat.le_of_ble_eq_true rfl) d_Law_law_346 (fun v sz1 sk1 rf1 J1 hp => ?_)
  obtain ⟨hsz, rfl, rfl, hp⟩ := hp
  rcases hp with ⟨rfl, hc, hout, CJ1, FJ1⟩ | ⟨rfl, hc, CJ1, FJ1⟩
  · have MJ1 := MI.hi (J := J1) (fun q h1 h2 => FJ1 q (fun z => by rcases z with z | z <;> omega))
    refine dz_istore (ls' := [(0, .ref b0), (1, .ref (b + 0)), (2, .ref (b + 130)), (3, .ref (b + 145)), (4, .int (dz_i i)), (5, .int (dz_i 0))]) x.1 d_Law_law_349 hN (by decide) rfl ?_
    refine dz_aload_n x.1 2 d_Law_law_351 rfl rfl ?_
    refine dz_aload_n x.1 0 d_Law_law_352 rfl rfl ?_
    refine dz_iload x.1 4 d_Law_law_353 rfl ?_
    refine dz_iconst x.1 d_Law_law_355 ?_
    refine dz_iadd (z := i + 1) x.1 d_Law_law_356 (by omega) ?_
    refine dz_sld x.1 sc hL (by omega) d_Law_law_357 ?_
    have hx357 := sp_sx_rng xs (i + 1)
    refine dz_callV (rest := []) x.1 dd rm cl_Law_81 (c_Model_size l D Dt b _ J1 W T n g c S w nb Bk H MJ1 (sp_sx xs (i + 1)) h1) (by decide) (by omega) (by omega) (ly_Model b) rfl rfl rfl rfl (Nat.le_of_ble_eq_true rfl) d_Law_law_358 (fun v sz2 sk2 rf2 J2 hp => ?_)
    obtain ⟨rfl, rfl, rfl, hp⟩ := hp
    rcases hp with ⟨FJ2, MJ2, ⟨hm, rfl, hthr⟩ | ⟨hm, hthr, rfl⟩⟩
    · have CJ2 := CJ1.lo (J := J2) (fun q hq => FJ2 q (fun z => by omega))
      have ho2 : J2 (b + 145) 0 = ((Bk ((sp_sx xs (i + 1))).toNat).2.length : Int) := by rw [FJ2 _ (fun z => by omega)]; exact hout
      refine dz_istore (ls' := [(0, .ref b0), (1, .ref (b + 0)), (2, .ref (b + 130)), (3, .ref (b + 145)), (4, .int (dz_i i)), (5, .int (dz_i 0)), (6, .int (dz_i ((Bk ((sp_sx xs (i + 1))).toNat).2.length : Int)))]) x.1 d_Law_law_361 hN (by decide) rfl ?_
      refine dz_aload_n x.1 2 d_Law_law_363 rfl rfl ?_
      refine dz_callV (rest := []) x.1 dd rm cl_Law_59 (c_Model_thrown l D Dt b _ J2 0 hthr) (by decide) (by omega) (by omega) (ly_Model b) rfl rfl rfl rfl (Nat.le_of_ble_eq_true rfl) d_Law_law_364 (fun v sz3 sk3 rf3 J3 hp => ?_)
      obtain ⟨rfl, rfl, rfl, hp⟩ := hp
      obtain ⟨rfl, hI⟩ := hp
      have hI := hI.symm
      subst hI
      refine dz_iload x.1 5 d_Law_law_367 rfl ?_
      refine dz_icmp_eq (tgt := 374) x.1 d_Law_law_369 (by decide) (by omega) (by omega) (fun hc369 => ?_) (fun hc369 => by exfalso; omega)
      refine dz_iload x.1 5 d_Law_law_374 rfl ?_
      refine dz_if_ne (tgt := 391) x.1 d_Law_law_376 (by decide) (by omega) (fun hc376 => by exfalso; omega) (fun hc376 => ?_)
      refine dz_aload_n x.1 3 d_Law_law_379 rfl rfl ?_
      refine dz_iconst x.1 d_Law_law_380 ?_
      refine dz_lald (w := ((Bk ((sp_sx xs (i + 1))).toNat).2.length : Int)) x.1 (ly_Out b) (by decide) (by omega) d_Law_law_381 ho2 ?_
      refine dz_iload x.1 6 d_Law_law_382 rfl ?_
      refine dz_i2l x.1 d_Law_law_384 ?_
      refine dz_lcmp x.1 d_Law_law_385 rfl ?_
      refine dz_if_eq (tgt := 391) x.1 d_Law_law_386 (by decide) (by omega) (fun hc386 => ?_) (fun hc386 => by exfalso; omega)
      refine dz_goto (tgt := 728) x.1 d_Law_law_391 (by decide) ?_
      refine dz_take 5 (ls' := [(0, .ref b0), (1, .ref (b + 0)), (2, .ref (b + 130)), (3, .ref (b + 145)), (4, .int (dz_i i))]) rfl ?_
      exact (k9 _ J2 ⟨_, _, _, _, _, _, _, _, CJ2, MJ2⟩)
    · exfalso; first | omega | exact hc hm | exact hm hc | exact hm hc.1 | exact hc.1 hm | exact hm.1 hc | exact hc hm.1 | exact hc hm.1.1
  · have MJ1 := MI.hi (J := J1) (fun q h1 h2 => FJ1 q (fun z => by rcases z with z | z <;> omega))
    refine dz_istore (ls' := [(0, .ref b0), (1, .ref (b + 0)), (2, .ref (b + 130)), (3, .ref (b + 145)), (4, .int (dz_i i)), (5, .int (dz_i 1))]) x.1 d_Law_law_349 hN (by decide) rfl ?_
    refine dz_aload_n x.1 2 d_Law_law_351 rfl rfl ?_
    refine dz_aload_n x.1 0 d_Law_law_352 rfl rfl ?_
    refine dz_iload x.1 4 d_Law_law_353 rfl ?_
    refine dz_iconst x.1 d_Law_law_355 ?_
    refine dz_iadd (z := i + 1) x.1 d_Law_law_356 (by omega) ?_
    refine dz_sld x.1 sc hL (by omega) d_Law_law_357 ?_
    have hx357 := sp_sx_rng xs (i + 1)
    refine dz_callV (rest := []) x.1 dd rm cl_Law_81 (c_Model_size l D Dt b _ J1 W T n g c S w nb Bk H MJ1 (sp_sx xs (i + 1)) h1) (by decide) (by omega) (by omega) (ly_Model b) rfl rfl rfl rfl (Nat.le_of_ble_eq_true rfl) d_Law_law_358 (fun v sz2 sk2 rf2 J2 hp => ?_)
    obtain ⟨rfl, rfl, rfl, hp⟩ := hp
    rcases hp with ⟨FJ2, MJ2, ⟨hm, rfl, hthr⟩ | ⟨hm, hthr, rfl⟩⟩
    · exfalso; first | omega | exact hc hm | exact hm hc | exact hm hc.1 | exact hc.1 hm | exact hm.1 hc | exact hc hm.1 | exact hc hm.1.1
    · have CJ2 := CJ1.lo (J := J2) (fun q hq => FJ2 q (fun z => by omega))
      refine dz_istore (ls' := [(0, .ref b0), (1, .ref (b + 0)), (2, .ref (b + 130)), (3, .ref (b + 145)), (4, .int (dz_i i)), (5, .int (dz_i 1)), (6, .int (dz_i 0))]) x.1 d_Law_law_361 hN (by decide) rfl ?_
      refine dz_aload_n x.1 2 d_Law_law_363 rfl rfl ?_
      refine dz_callV (rest := []) x.1 dd rm cl_Law_59 (c_Model_thrown l D Dt b _ J2 1 hthr) (by decide) (by omega) (by omega) (ly_Model b) rfl rfl rfl rfl (Nat.le_of_ble_eq_true rfl) d_Law_law_364 (fun v sz3 sk3 rf3 J3 hp => ?_)
      obtain ⟨rfl, rfl, rfl, hp⟩ := hp
      obtain ⟨rfl, hI⟩ := hp
      have hI := hI.symm
      subst hI
      refine dz_iload x.1 5 d_Law_law_367 rfl ?_
      refine dz_icmp_eq (tgt := 374) x.1 d_Law_law_369 (by decide) (by omega) (by omega) (fun hc369 => ?_) (fun hc369 => by exfalso; omega)
      refine dz_iload x.1 5 d_Law_law_374 rfl ?_
      refine dz_if_ne (tgt := 391) x.1 d_Law_law_376 (by decide) (by omega) (fun hc376 => ?_) (fun hc376 => by exfalso; omega)
      refine dz_goto (tgt := 728) x.1 d_Law_law_391 (by decide) ?_
      refine dz_take 5 (ls' := [(0, .ref b0), (1, .ref (b + 0)), (2, .ref (b + 130)), (3, .ref (b + 145)), (4, .int (dz_i i))]) rfl ?_
      exact (k9 _ J2 ⟨_, _, _, _, _, _, _, _, CJ2, MJ2⟩)
set_option maxRecDepth 100000 in
set_option maxHeartbeats 4000000 in
theorem t_cell (hst9 : l.stackTraces = false) (x : dz_Am κ b_Law_law R_Law ∧ True) (dd : dz_Dd κ l D Dt 7) (rm : dz_Rm κ 15 601024 7293000) (sc : dz_Sc κ b0 L xs) (hL : L ≤ 2050) (hi : 0 ≤ i ∧ i + 4 ≤ (L : Int)) (hce : cells ≤ 2000 ∧ slots ≤ 100000) (CI : sp_CL b J W T n g c S w nb Bk H) (MI : sp_MO b J W T n g c S w nb Bk H) (k9 : ∀ (sz' : Nat) (J' : dz_Hp), lw_I b J' W T → dz_V κ (cells + 1) (slots + 6) sz' (ly_s b) (ly_r b) J' 728 (lw_ls b b0 i) []) : dz_V κ cells slots sz (ly_s b) (ly_r b) J 394 (lw_ls b b0 i) [] := by
  have hN := dz_dd_N dd
  show dz_V κ cells slots sz (ly_s b) (ly_r b) J 394 [(0, .ref b0), (1, .ref (b + 0)), (2, .ref (b + 130)), (3, .ref (b + 145)), (4, .int (dz_i i))] []
  have h1 := sp_sx_rng xs (i + 1)
  have h2 := sp_sx_rng xs (i + 2)
  refine dz_aload_n x.1 1 d_Law_law_394 rfl rfl ?_
  refine dz_aload_n x.1 0 d_Law_law_395 rfl rfl ?_
  refine dz_iload x.1 4 d_Law_law_396 rfl ?_
  refine dz_iconst x.1 d_Law_law_398 ?_
  refine dz_iadd (z := i + 1) x.1 d_Law_law_399 (by omega) ?_
  refine dz_sld x.1 sc hL (by omega) d_Law_law_400 ?_
  have hx400 := sp_sx_rng xs (i + 1)
  refine dz_aload_n x.1 0 d_Law_law_401 rfl rfl ?_
  refine dz_iload x.1 4 d_Law_law_402 rfl ?_
  refine dz_iconst x.1 d_Law_law_404 ?_
  refine dz_iadd (z := i + 2) x.1 d_Law_law_405 (by omega) ?_
  refine dz_sld x.1 sc hL (by omega) d_Law_law_406 ?_
  have hx406 := sp_sx_rng xs (i + 2)
  refine dz_aload_n x.1 3 d_Law_law_407 rfl rfl ?_
  refine dz_callSW (rest := []) x.1 dd rm cw_Law_82 (c_Law_cell_1 l hst9 D Dt b sz J W T n g c S w nb Bk H CI (sp_sx xs (i + 1)) h1 (sp_sx xs (i + 2)) h2) (by decide) (by omega) (by omega) rfl rfl (Nat.le_of_ble_eq_true rfl) d_Law_law_408 (fun v sz1 sk1 rf1 J1 hp => ?_)
  obtain ⟨hsz, rfl, rfl, hp⟩ := hp
  rcases hp with ⟨rfl, hc, hout, CJ1, FJ1⟩ | ⟨rfl, hc, CJ1, FJ1⟩
  · have MJ1 := MI.hi (J := J1) (fun q h1 h2 => FJ1 q (fun z => by rcases z with z | z <;> omega))
    refine dz_istore (ls' := [(0, .ref b0), (1, .ref (b + 0)), (2, .ref (b + 130)), (3, .ref (b + 145)), (4, .int (dz_i i)), (5, .int (dz_i 0))]) x.1 d_Law_law_411 hN (by decide) rfl ?_
    refine dz_aload_n x.1 2 d_Law_law_413 rfl rfl ?_
    refine dz_aload_n x.1 0 d_Law_law_414 rfl rfl ?_
    refine dz_iload x.1 4 d_Law_law_415 rfl ?_
    refine dz_iconst x.1 d_Law_law_417 ?_
    refine dz_iadd (z := i + 1) x.1 d_Law_law_418 (by omega) ?_
    refine dz_sld x.1 sc hL (by omega) d_Law_law_419 ?_
    have hx419 := sp_sx_rng xs (i + 1)
    refine dz_aload_n x.1 0 d_Law_law_420 rfl rfl ?_
    refine dz_iload x.1 4 d_Law_law_421 rfl ?_
    refine dz_iconst x.1 d_Law_law_423 ?_
    refine dz_iadd (z := i + 2) x.1 d_Law_law_424 (by omega) ?_
    refine dz_sld x.1 sc hL (by omega) d_Law_law_425 ?_
    have hx425 := sp_sx_rng xs (i + 2)
    refine dz_callV (rest := []) x.1 dd rm cl_Law_85 (c_Model_cell l D Dt b _ J1 W T n g c S w nb Bk H MJ1 (sp_sx xs (i + 1)) h1 (sp_sx xs (i + 2)) h2) (by decide) (by omega) (by omega) (ly_Model b) rfl rfl rfl rfl (Nat.le_of_ble_eq_true rfl) d_Law_law_426 (fun v sz2 sk2 rf2 J2 hp => ?_)
    obtain ⟨rfl, rfl, rfl, hp⟩ := hp
    rcases hp with ⟨FJ2, MJ2, ⟨hm, rfl, hthr⟩ | ⟨hm, hthr, rfl⟩⟩
    · have CJ2 := CJ1.lo (J := J2) (fun q hq => FJ2 q (fun z => by omega))
      have ho2 : J2 (b + 145) 0 = (((Bk (sp_sx xs (i + 1)).toNat).2.getD (sp_sx xs (i + 2)).toNat (0, 0)).1 + 64 * ((Bk (sp_sx xs (i + 1)).toNat).2.getD (sp_sx xs (i + 2)).toNat (0, 0)).2) := by rw [FJ2 _ (fun z => by omega)]; exact hout
      refine dz_istore (ls' := [(0, .ref b0), (1, .ref (b + 0)), (2, .ref (b + 130)), (3, .ref (b + 145)), (4, .int (dz_i i)), (5, .int (dz_i 0)), (6, .int (dz_i (((Bk (sp_sx xs (i + 1)).toNat).2.getD (sp_sx xs (i + 2)).toNat (0, 0)).1 + 64 * ((Bk (sp_sx xs (i + 1)).toNat).2.getD (sp_sx xs (i + 2)).toNat (0, 0)).2)))]) x.1 d_Law_law_429 hN (by decide) rfl ?_
      refine dz_aload_n x.1 2 d_Law_law_431 rfl rfl ?_
      refine dz_callV (rest := []) x.1 dd rm cl_Law_59 (c_Model_thrown l D Dt b _ J2 0 hthr) (by decide) (by omega) (by omega) (ly_Model b) rfl rfl rfl rfl (Nat.le_of_ble_eq_true rfl) d_Law_law_432 (fun v sz3 sk3 rf3 J3 hp => ?_)
      obtain ⟨rfl, rfl, rfl, hp⟩ := hp
      obtain ⟨rfl, hI⟩ := hp
      have hI := hI.symm
      subst hI
      refine dz_iload x.1 5 d_Law_law_435 rfl ?_
      refine dz_icmp_eq (tgt := 442) x.1 d_Law_law_437 (by decide) (by omega) (by omega) (fun hc437 => ?_) (fun hc437 => by exfalso; omega)
      refine dz_iload x.1 5 d_Law_law_442 rfl ?_
      refine dz_if_ne (tgt := 459) x.1 d_Law_law_444 (by decide) (by omega) (fun hc444 => by exfalso; omega) (fun hc444 => ?_)
      refine dz_aload_n x.1 3 d_Law_law_447 rfl rfl ?_
      refine dz_iconst x.1 d_Law_law_448 ?_
      refine dz_lald (w := (((Bk (sp_sx xs (i + 1)).toNat).2.getD (sp_sx xs (i + 2)).toNat (0, 0)).1 + 64 * ((Bk (sp_sx xs (i + 1)).toNat).2.getD (sp_sx xs (i + 2)).toNat (0, 0)).2)) x.1 (ly_Out b) (by decide) (by omega) d_Law_law_449 ho2 ?_
      refine dz_iload x.1 6 d_Law_law_450 rfl ?_
      refine dz_i2l x.1 d_Law_law_452 ?_
      refine dz_lcmp x.1 d_Law_law_453 rfl ?_
      refine dz_if_eq (tgt := 459) x.1 d_Law_law_454 (by decide) (by omega) (fun hc454 => ?_) (fun hc454 => by exfalso; omega)
      refine dz_goto (tgt := 728) x.1 d_Law_law_459 (by decide) ?_
      refine dz_take 5 (ls' := [(0, .ref b0), (1, .ref (b + 0)), (2, .ref (b + 130)), (3, .ref (b + 145)), (4, .int (dz_i i))]) rfl ?_
      exact (k9 _ J2 ⟨_, _, _, _, _, _, _, _, CJ2, MJ2⟩)
    · exfalso; first | omega | exact hc hm | exact hm hc | exact hm hc.1 | exact hc.1 hm | exact hm.1 hc | exact hc hm.1 | exact hc hm.1.1
  · have MJ1 := MI.hi (J := J1) (fun q h1 h2 => FJ1 q (fun z => by rcases z with z | z <;> omega))
    refine dz_istore (ls' := [(0, .ref b0), (1, .ref (b + 0)), (2, .ref (b + 130)), (3, .ref (b + 145)), (4, .int (dz_i i)), (5, .int (dz_i 1))]) x.1 d_Law_law_411 hN (by decide) rfl ?_
    refine dz_aload_n x.1 2 d_Law_law_413 rfl rfl ?_
    refine dz_aload_n x.1 0 d_Law_law_414 rfl rfl ?_
    refine dz_iload x.1 4 d_Law_law_415 rfl ?_
    refine dz_iconst x.1 d_Law_law_417 ?_
    refine dz_iadd (z := i + 1) x.1 d_Law_law_418 (by omega) ?_
    refine dz_sld x.1 sc hL (by omega) d_Law_law_419 ?_
    have hx419 := sp_sx_rng xs (i + 1)
    refine dz_aload_n x.1 0 d_Law_law_420 rfl rfl ?_
    refine dz_iload x.1 4 d_Law_law_421 rfl ?_
    refine dz_iconst x.1 d_Law_law_423 ?_
    refine dz_iadd (z := i + 2) x.1 d_Law_law_424 (by omega) ?_
    refine dz_sld x.1 sc hL (by omega) d_Law_law_425 ?_
    have hx425 := sp_sx_rng xs (i + 2)
    refine dz_callV (rest := []) x.1 dd rm cl_Law_85 (c_Model_cell l D Dt b _ J1 W T n g c S w nb Bk H MJ1 (sp_sx xs (i + 1)) h1 (sp_sx xs (i + 2)) h2) (by decide) (by omega) (by omega) (ly_Model b) rfl rfl rfl rfl (Nat.le_of_ble_eq_true rfl) d_Law_law_426 (fun v sz2 sk2 rf2 J2 hp => ?_)
    obtain ⟨rfl, rfl, rfl, hp⟩ := hp
    rcases hp with ⟨FJ2, MJ2, ⟨hm, rfl, hthr⟩ | ⟨hm, hthr, rfl⟩⟩
    · exfalso; first | omega | exact hc hm | exact hm hc | exact hm hc.1 | exact hc.1 hm | exact hm.1 hc | exact hc hm.1 | exact hc hm.1.1
    · have CJ2 := CJ1.lo (J := J2) (fun q hq => FJ2 q (fun z => by omega))
      refine dz_istore (ls' := [(0, .ref b0), (1, .ref (b + 0)), (2, .ref (b + 130)), (3, .ref (b + 145)), (4, .int (dz_i i)), (5, .int (dz_i 1)), (6, .int (dz_i 0))]) x.1 d_Law_law_429 hN (by decide) rfl ?_
      refine dz_aload_n x.1 2 d_Law_law_431 rfl rfl ?_
      refine dz_callV (rest := []) x.1 dd rm cl_Law_59 (c_Model_thrown l D Dt b _ J2 1 hthr) (by decide) (by omega) (by omega) (ly_Model b) rfl rfl rfl rfl (Nat.le_of_ble_eq_true rfl) d_Law_law_432 (fun v sz3 sk3 rf3 J3 hp => ?_)
      obtain ⟨rfl, rfl, rfl, hp⟩ := hp
      obtain ⟨rfl, hI⟩ := hp
      have hI := hI.symm
      subst hI
      refine dz_iload x.1 5 d_Law_law_435 rfl ?_
      refine dz_icmp_eq (tgt := 442) x.1 d_Law_law_437 (by decide) (by omega) (by omega) (fun hc437 => ?_) (fun hc437 => by exfalso; omega)
      refine dz_iload x.1 5 d_Law_law_442 rfl ?_
      refine dz_if_ne (tgt := 459) x.1 d_Law_law_444 (by decide) (by omega) (fun hc444 => ?_) (fun hc444 => by exfalso; omega)
      refine dz_goto (tgt := 728) x.1 d_Law_law_459 (by decide) ?_
      refine dz_take 5 (ls' := [(0, .ref b0), (1, .ref (b + 0)), (2, .ref (b + 130)), (3, .ref (b + 145)), (4, .int (dz_i i))]) rfl ?_
      exact (k9 _ J2 ⟨_, _, _, _, _, _, _, _, CJ2, MJ2⟩)
set_option maxRecDepth 100000 in
set_option maxHeartbeats 4000000 in
theorem t_back (hst9 : l.stackTraces = false) (x : dz_Am κ b_Law_law R_Law ∧ True) (dd : dz_Dd κ l D Dt 7) (rm : dz_Rm κ 15 601024 7293000) (sc : dz_Sc κ b0 L xs) (hL : L ≤ 2050) (hi : 0 ≤ i ∧ i + 4 ≤ (L : Int)) (hce : cells ≤ 2000 ∧ slots ≤ 100000) (CI : sp_CL b J W T n g c S w nb Bk H) (MI : sp_MO b J W T n g c S w nb Bk H) (k9 : ∀ (sz' : Nat) (J' : dz_Hp), lw_I b J' W T → dz_V κ (cells + 1) (slots + 6) sz' (ly_s b) (ly_r b) J' 728 (lw_ls b b0 i) []) : dz_V κ cells slots sz (ly_s b) (ly_r b) J 462 (lw_ls b b0 i) [] := by
  have hN := dz_dd_N dd
  show dz_V κ cells slots sz (ly_s b) (ly_r b) J 462 [(0, .ref b0), (1, .ref (b + 0)), (2, .ref (b + 130)), (3, .ref (b + 145)), (4, .int (dz_i i))] []
  have h1 := sp_sx_rng xs (i + 1)
  refine dz_aload_n x.1 1 d_Law_law_462 rfl rfl ?_
  refine dz_aload_n x.1 0 d_Law_law_463 rfl rfl ?_
  refine dz_iload x.1 4 d_Law_law_464 rfl ?_
  refine dz_iconst x.1 d_Law_law_466 ?_
  refine dz_iadd (z := i + 1) x.1 d_Law_law_467 (by omega) ?_
  refine dz_sld x.1 sc hL (by omega) d_Law_law_468 ?_
  have hx468 := sp_sx_rng xs (i + 1)
  refine dz_aload_n x.1 3 d_Law_law_469 rfl rfl ?_
  refine dz_callSW (rest := []) x.1 dd rm cw_Law_86 (c_Law_back l hst9 D Dt b sz J W T n g c S w nb Bk H CI (sp_sx xs (i + 1)) h1) (by decide) (by omega) (by omega) rfl rfl (Nat.le_of_ble_eq_true rfl) d_Law_law_470 (fun v sz1 sk1 rf1 J1 hp => ?_)
  obtain ⟨hsz, rfl, rfl, hp⟩ := hp
  rcases hp with ⟨rfl, hc, hout, CJ1, FJ1⟩ | ⟨rfl, hc, CJ1, FJ1⟩
  · have MJ1 := MI.hi (J := J1) (fun q h1 h2 => FJ1 q (fun z => by rcases z with z | z <;> omega))
    refine dz_istore (ls' := [(0, .ref b0), (1, .ref (b + 0)), (2, .ref (b + 130)), (3, .ref (b + 145)), (4, .int (dz_i i)), (5, .int (dz_i 0))]) x.1 d_Law_law_473 hN (by decide) rfl ?_
    refine dz_aload_n x.1 2 d_Law_law_475 rfl rfl ?_
    refine dz_aload_n x.1 0 d_Law_law_476 rfl rfl ?_
    refine dz_iload x.1 4 d_Law_law_477 rfl ?_
    refine dz_iconst x.1 d_Law_law_479 ?_
    refine dz_iadd (z := i + 1) x.1 d_Law_law_480 (by omega) ?_
    refine dz_sld x.1 sc hL (by omega) d_Law_law_481 ?_
    have hx481 := sp_sx_rng xs (i + 1)
    refine dz_callV (rest := []) x.1 dd rm cl_Law_88 (c_Model_back l D Dt b _ J1 W T n g c S w nb Bk H MJ1 (sp_sx xs (i + 1)) h1) (by decide) (by omega) (by omega) (ly_Model b) rfl rfl rfl rfl (Nat.le_of_ble_eq_true rfl) d_Law_law_482 (fun v sz2 sk2 rf2 J2 hp => ?_)
    obtain ⟨rfl, rfl, rfl, hp⟩ := hp
    rcases hp with ⟨FJ2, ⟨hm, rfl, hthr, MJ2⟩ | ⟨hm, hthr, rfl, MJ2⟩⟩
    · have CJ2 := CJ1.lo (J := J2) (fun q hq => FJ2 q (fun z => by omega))
      have ho2 : J2 (b + 145) 0 = ((sp_bk (sp_oh (Bk (sp_sx xs (i + 1)).toNat).2) c S (Bk (sp_sx xs (i + 1)).toNat).2.length 0).length : Int) := by rw [FJ2 _ (fun z => by omega)]; exact hout
      refine dz_istore (ls' := [(0, .ref b0), (1, .ref (b + 0)), (2, .ref (b + 130)), (3, .ref (b + 145)), (4, .int (dz_i i)), (5, .int (dz_i 0)), (6, .int (dz_i ((sp_bk (sp_oh (Bk (sp_sx xs (i + 1)).toNat).2) c S (Bk (sp_sx xs (i + 1)).toNat).2.length 0).length : Int)))]) x.1 d_Law_law_485 hN (by decide) rfl ?_
      refine dz_aload_n x.1 2 d_Law_law_487 rfl rfl ?_
      refine dz_callV (rest := []) x.1 dd rm cl_Law_59 (c_Model_thrown l D Dt b _ J2 0 hthr) (by decide) (by omega) (by omega) (ly_Model b) rfl rfl rfl rfl (Nat.le_of_ble_eq_true rfl) d_Law_law_488 (fun v sz3 sk3 rf3 J3 hp => ?_)
      obtain ⟨rfl, rfl, rfl, hp⟩ := hp
      obtain ⟨rfl, hI⟩ := hp
      have hI := hI.symm
      subst hI
      refine dz_iload x.1 5 d_Law_law_491 rfl ?_
      refine dz_icmp_eq (tgt := 498) x.1 d_Law_law_493 (by decide) (by omega) (by omega) (fun hc493 => ?_) (fun hc493 => by exfalso; omega)
      refine dz_iload x.1 5 d_Law_law_498 rfl ?_
      refine dz_if_ne (tgt := 515) x.1 d_Law_law_500 (by decide) (by omega) (fun hc500 => by exfalso; omega) (fun hc500 => ?_)
      refine dz_aload_n x.1 3 d_Law_law_503 rfl rfl ?_
      refine dz_iconst x.1 d_Law_law_504 ?_
      refine dz_lald (w := ((sp_bk (sp_oh (Bk (sp_sx xs (i + 1)).toNat).2) c S (Bk (sp_sx xs (i + 1)).toNat).2.length 0).length : Int)) x.1 (ly_Out b) (by decide) (by omega) d_Law_law_505 ho2 ?_
      refine dz_iload x.1 6 d_Law_law_506 rfl ?_
      refine dz_i2l x.1 d_Law_law_508 ?_
      refine dz_lcmp x.1 d_Law_law_509 rfl ?_
      refine dz_if_eq (tgt := 515) x.1 d_Law_law_510 (by decide) (by omega) (fun hc510 => ?_) (fun hc510 => by exfalso; omega)
      refine dz_goto (tgt := 728) x.1 d_Law_law_515 (by decide) ?_
      refine dz_take 5 (ls' := [(0, .ref b0), (1, .ref (b + 0)), (2, .ref (b + 130)), (3, .ref (b + 145)), (4, .int (dz_i i))]) rfl ?_
      exact (k9 _ J2 ⟨_, _, _, _, _, _, _, _, CJ2, MJ2⟩)
    · exfalso; first | omega | exact hc hm | exact hm hc | exact hm hc.1 | exact hc.1 hm | exact hm.1 hc | exact hc hm.1 | exact hc hm.1.1
  · have MJ1 := MI.hi (J := J1) (fun q h1 h2 => FJ1 q (fun z => by rcases z with z | z <;> omega))
    refine dz_istore (ls' := [(0, .ref b0), (1, .ref (b + 0)), (2, .ref (b + 130)), (3, .ref (b + 145)), (4, .int (dz_i i)), (5, .int (dz_i 1))]) x.1 d_Law_law_473 hN (by decide) rfl ?_
    refine dz_aload_n x.1 2 d_Law_law_475 rfl rfl ?_
    refine dz_aload_n x.1 0 d_Law_law_476 rfl rfl ?_
    refine dz_iload x.1 4 d_Law_law_477 rfl ?_
    refine dz_iconst x.1 d_Law_law_479 ?_
    refine dz_iadd (z := i + 1) x.1 d_Law_law_480 (by omega) ?_
    refine dz_sld x.1 sc hL (by omega) d_Law_law_481 ?_
    have hx481 := sp_sx_rng xs (i + 1)
    refine dz_callV (rest := []) x.1 dd rm cl_Law_88 (c_Model_back l D Dt b _ J1 W T n g c S w nb Bk H MJ1 (sp_sx xs (i + 1)) h1) (by decide) (by omega) (by omega) (ly_Model b) rfl rfl rfl rfl (Nat.le_of_ble_eq_true rfl) d_Law_law_482 (fun v sz2 sk2 rf2 J2 hp => ?_)
    obtain ⟨rfl, rfl, rfl, hp⟩ := hp
    rcases hp with ⟨FJ2, ⟨hm, rfl, hthr, MJ2⟩ | ⟨hm, hthr, rfl, MJ2⟩⟩
    · exfalso; first | omega | exact hc hm | exact hm hc | exact hm hc.1 | exact hc.1 hm | exact hm.1 hc | exact hc hm.1 | exact hc hm.1.1
    · have CJ2 := CJ1.lo (J := J2) (fun q hq => FJ2 q (fun z => by omega))
      refine dz_istore (ls' := [(0, .ref b0), (1, .ref (b + 0)), (2, .ref (b + 130)), (3, .ref (b + 145)), (4, .int (dz_i i)), (5, .int (dz_i 1)), (6, .int (dz_i 0))]) x.1 d_Law_law_485 hN (by decide) rfl ?_
      refine dz_aload_n x.1 2 d_Law_law_487 rfl rfl ?_
      refine dz_callV (rest := []) x.1 dd rm cl_Law_59 (c_Model_thrown l D Dt b _ J2 1 hthr) (by decide) (by omega) (by omega) (ly_Model b) rfl rfl rfl rfl (Nat.le_of_ble_eq_true rfl) d_Law_law_488 (fun v sz3 sk3 rf3 J3 hp => ?_)
      obtain ⟨rfl, rfl, rfl, hp⟩ := hp
      obtain ⟨rfl, hI⟩ := hp
      have hI := hI.symm
      subst hI
      refine dz_iload x.1 5 d_Law_law_491 rfl ?_
      refine dz_icmp_eq (tgt := 498) x.1 d_Law_law_493 (by decide) (by omega) (by omega) (fun hc493 => ?_) (fun hc493 => by exfalso; omega)
      refine dz_iload x.1 5 d_Law_law_498 rfl ?_
      refine dz_if_ne (tgt := 515) x.1 d_Law_law_500 (by decide) (by omega) (fun hc500 => ?_) (fun hc500 => by exfalso; omega)
      refine dz_goto (tgt := 728) x.1 d_Law_law_515 (by decide) ?_
      refine dz_take 5 (ls' := [(0, .ref b0), (1, .ref (b + 0)), (2, .ref (b + 130)), (3, .ref (b + 145)), (4, .int (dz_i i))]) rfl ?_
      exact (k9 _ J2 ⟨_, _, _, _, _, _, _, _, CJ2, MJ2⟩)
set_option maxRecDepth 100000 in
set_option maxHeartbeats 4000000 in
theorem t_at (hst9 : l.stackTraces = false) (x : dz_Am κ b_Law_law R_Law ∧ True) (dd : dz_Dd κ l D Dt 7) (rm : dz_Rm κ 15 601024 7293000) (sc : dz_Sc κ b0 L xs) (hL : L ≤ 2050) (hi : 0 ≤ i ∧ i + 4 ≤ (L : Int)) (hce : cells ≤ 2000 ∧ slots ≤ 100000) (CI : sp_CL b J W T n g c S w nb Bk H) (MI : sp_MO b J W T n g c S w nb Bk H) (k9 : ∀ (sz' : Nat) (J' : dz_Hp), lw_I b J' W T → dz_V κ (cells + 1) (slots + 6) sz' (ly_s b) (ly_r b) J' 728 (lw_ls b b0 i) []) : dz_V κ cells slots sz (ly_s b) (ly_r b) J 556 (lw_ls b b0 i) [] := by
  have hN := dz_dd_N dd
  show dz_V κ cells slots sz (ly_s b) (ly_r b) J 556 [(0, .ref b0), (1, .ref (b + 0)), (2, .ref (b + 130)), (3, .ref (b + 145)), (4, .int (dz_i i))] []
  have h1 := sp_sx_rng xs (i + 1)
  have h2 := sp_sx_rng xs (i + 2)
  have h3 := sp_sx_rng xs (i + 3)
  refine dz_aload_n x.1 1 d_Law_law_556 rfl rfl ?_
  refine dz_aload_n x.1 0 d_Law_law_557 rfl rfl ?_
  refine dz_iload x.1 4 d_Law_law_558 rfl ?_
  refine dz_iconst x.1 d_Law_law_560 ?_
  refine dz_iadd (z := i + 1) x.1 d_Law_law_561 (by omega) ?_
  refine dz_sld x.1 sc hL (by omega) d_Law_law_562 ?_
  have hx562 := sp_sx_rng xs (i + 1)
  refine dz_aload_n x.1 0 d_Law_law_563 rfl rfl ?_
  refine dz_iload x.1 4 d_Law_law_564 rfl ?_
  refine dz_iconst x.1 d_Law_law_566 ?_
  refine dz_iadd (z := i + 2) x.1 d_Law_law_567 (by omega) ?_
  refine dz_sld x.1 sc hL (by omega) d_Law_law_568 ?_
  have hx568 := sp_sx_rng xs (i + 2)
  refine dz_aload_n x.1 0 d_Law_law_569 rfl rfl ?_
  refine dz_iload x.1 4 d_Law_law_570 rfl ?_
  refine dz_iconst x.1 d_Law_law_572 ?_
  refine dz_iadd (z := i + 3) x.1 d_Law_law_573 (by omega) ?_
  refine dz_sld x.1 sc hL (by omega) d_Law_law_574 ?_
  have hx574 := sp_sx_rng xs (i + 3)
  refine dz_aload_n x.1 3 d_Law_law_575 rfl rfl ?_
  refine dz_callSW (rest := []) x.1 dd rm cw_Law_98 (c_Law_at l hst9 D Dt b sz J W T n g c S w nb Bk H CI (sp_sx xs (i + 1)) h1 (sp_sx xs (i + 2)) h2 (sp_sx xs (i + 3)) h3) (by decide) (by omega) (by omega) rfl rfl (Nat.le_of_ble_eq_true rfl) d_Law_law_576 (fun v sz1 sk1 rf1 J1 hp => ?_)
  obtain ⟨hsz, rfl, rfl, hp⟩ := hp
  rcases hp with ⟨rfl, hc, hout, CJ1, FJ1⟩ | ⟨rfl, hc, CJ1, FJ1⟩
  · have MJ1 := MI.hi (J := J1) (fun q h1 h2 => FJ1 q (fun z => by rcases z with z | z <;> omega))
    refine dz_istore (ls' := [(0, .ref b0), (1, .ref (b + 0)), (2, .ref (b + 130)), (3, .ref (b + 145)), (4, .int (dz_i i)), (5, .int (dz_i 0))]) x.1 d_Law_law_579 hN (by decide) rfl ?_
    refine dz_aload_n x.1 2 d_Law_law_581 rfl rfl ?_
    refine dz_aload_n x.1 0 d_Law_law_582 rfl rfl ?_
    refine dz_iload x.1 4 d_Law_law_583 rfl ?_
    refine dz_iconst x.1 d_Law_law_585 ?_
    refine dz_iadd (z := i + 1) x.1 d_Law_law_586 (by omega) ?_
    refine dz_sld x.1 sc hL (by omega) d_Law_law_587 ?_
    have hx587 := sp_sx_rng xs (i + 1)
    refine dz_aload_n x.1 0 d_Law_law_588 rfl rfl ?_
    refine dz_iload x.1 4 d_Law_law_589 rfl ?_
    refine dz_iconst x.1 d_Law_law_591 ?_
    refine dz_iadd (z := i + 2) x.1 d_Law_law_592 (by omega) ?_
    refine dz_sld x.1 sc hL (by omega) d_Law_law_593 ?_
    have hx593 := sp_sx_rng xs (i + 2)
    refine dz_aload_n x.1 0 d_Law_law_594 rfl rfl ?_
    refine dz_iload x.1 4 d_Law_law_595 rfl ?_
    refine dz_iconst x.1 d_Law_law_597 ?_
    refine dz_iadd (z := i + 3) x.1 d_Law_law_598 (by omega) ?_
    refine dz_sld x.1 sc hL (by omega) d_Law_law_599 ?_
    have hx599 := sp_sx_rng xs (i + 3)
    refine dz_callV (rest := []) x.1 dd rm cl_Law_101 (c_Model_at l D Dt b _ J1 W T n g c S w nb Bk H MJ1 (sp_sx xs (i + 1)) h1 (sp_sx xs (i + 2)) h2 (sp_sx xs (i + 3)) h3) (by decide) (by omega) (by omega) (ly_Model b) rfl rfl rfl rfl (Nat.le_of_ble_eq_true rfl) d_Law_law_600 (fun v sz2 sk2 rf2 J2 hp => ?_)
    obtain ⟨rfl, rfl, rfl, hp⟩ := hp
    rcases hp with ⟨FJ2, MJ2, ⟨hm, rfl, hthr⟩ | ⟨hm, hthr, rfl⟩⟩
    · have CJ2 := CJ1.lo (J := J2) (fun q hq => FJ2 q (fun z => by omega))
      have ho2 : J2 (b + 145) 0 = (if (sp_sx xs (i + 2)) = T then sp_num W (sp_sx xs (i + 1)) (sp_sx xs (i + 3)) else sp_atx W T Bk nb (sp_sx xs (i + 1)) (sp_sx xs (i + 2)) (sp_sx xs (i + 3))) := by rw [FJ2 _ (fun z => by omega)]; exact hout
      refine dz_istore (ls' := [(0, .ref b0), (1, .ref (b + 0)), (2, .ref (b + 130)), (3, .ref (b + 145)), (4, .int (dz_i i)), (5, .int (dz_i 0)), (6, .int (dz_i (if (sp_sx xs (i + 2)) = T then sp_num W (sp_sx xs (i + 1)) (sp_sx xs (i + 3)) else sp_atx W T Bk nb (sp_sx xs (i + 1)) (sp_sx xs (i + 2)) (sp_sx xs (i + 3)))))]) x.1 d_Law_law_603 hN (by decide) rfl ?_
      refine dz_aload_n x.1 2 d_Law_law_605 rfl rfl ?_
      refine dz_callV (rest := []) x.1 dd rm cl_Law_59 (c_Model_thrown l D Dt b _ J2 0 hthr) (by decide) (by omega) (by omega) (ly_Model b) rfl rfl rfl rfl (Nat.le_of_ble_eq_true rfl) d_Law_law_606 (fun v sz3 sk3 rf3 J3 hp => ?_)
      obtain ⟨rfl, rfl, rfl, hp⟩ := hp
      obtain ⟨rfl, hI⟩ := hp
      have hI := hI.symm
      subst hI
      refine dz_iload x.1 5 d_Law_law_609 rfl ?_
      refine dz_icmp_eq (tgt := 616) x.1 d_Law_law_611 (by decide) (by omega) (by omega) (fun hc611 => ?_) (fun hc611 => by exfalso; omega)
      refine dz_iload x.1 5 d_Law_law_616 rfl ?_
      refine dz_if_ne (tgt := 633) x.1 d_Law_law_618 (by decide) (by omega) (fun hc618 => by exfalso; omega) (fun hc618 => ?_)
      refine dz_aload_n x.1 3 d_Law_law_621 rfl rfl ?_
      refine dz_iconst x.1 d_Law_law_622 ?_
      refine dz_lald (w := (if (sp_sx xs (i + 2)) = T then sp_num W (sp_sx xs (i + 1)) (sp_sx xs (i + 3)) else sp_atx W T Bk nb (sp_sx xs (i + 1)) (sp_sx xs (i + 2)) (sp_sx xs (i + 3)))) x.1 (ly_Out b) (by decide) (by omega) d_Law_law_623 ho2 ?_
      refine dz_iload x.1 6 d_Law_law_624 rfl ?_
      refine dz_i2l x.1 d_Law_law_626 ?_
      refine dz_lcmp x.1 d_Law_law_627 rfl ?_
      refine dz_if_eq (tgt := 633) x.1 d_Law_law_628 (by decide) (by omega) (fun hc628 => ?_) (fun hc628 => by exfalso; omega)
      refine dz_goto (tgt := 728) x.1 d_Law_law_633 (by decide) ?_
      refine dz_take 5 (ls' := [(0, .ref b0), (1, .ref (b + 0)), (2, .ref (b + 130)), (3, .ref (b + 145)), (4, .int (dz_i i))]) rfl ?_
      exact (k9 _ J2 ⟨_, _, _, _, _, _, _, _, CJ2, MJ2⟩)
    · exfalso; first | omega | exact hc hm | exact hm hc | exact hm hc.1 | exact hc.1 hm | exact hm.1 hc | exact hc hm.1 | exact hc hm.1.1
  · have MJ1 := MI.hi (J := J1) (fun q h1 h2 => FJ1 q (fun z => by rcases z with z | z <;> omega))
    refine dz_istore (ls' := [(0, .ref b0), (1, .ref (b + 0)), (2, .ref (b + 130)), (3, .ref (b + 145)), (4, .int (dz_i i)), (5, .int (dz_i 1))]) x.1 d_Law_law_579 hN (by decide) rfl ?_
    refine dz_aload_n x.1 2 d_Law_law_581 rfl rfl ?_
    refine dz_aload_n x.1 0 d_Law_law_582 rfl rfl ?_
    refine dz_iload x.1 4 d_Law_law_583 rfl ?_
    refine dz_iconst x.1 d_Law_law_585 ?_
    refine dz_iadd (z := i + 1) x.1 d_Law_law_586 (by omega) ?_
    refine dz_sld x.1 sc hL (by omega) d_Law_law_587 ?_
    have hx587 := sp_sx_rng xs (i + 1)
    refine dz_aload_n x.1 0 d_Law_law_588 rfl rfl ?_
    refine dz_iload x.1 4 d_Law_law_589 rfl ?_
    refine dz_iconst x.1 d_Law_law_591 ?_
    refine dz_iadd (z := i + 2) x.1 d_Law_law_592 (by omega) ?_
    refine dz_sld x.1 sc hL (by omega) d_Law_law_593 ?_
    have hx593 := sp_sx_rng xs (i + 2)
    refine dz_aload_n x.1 0 d_Law_law_594 rfl rfl ?_
    refine dz_iload x.1 4 d_Law_law_595 rfl ?_
    refine dz_iconst x.1 d_Law_law_597 ?_
    refine dz_iadd (z := i + 3) x.1 d_Law_law_598 (by omega) ?_
    refine dz_sld x.1 sc hL (by omega) d_Law_law_599 ?_
    have hx599 := sp_sx_rng xs (i + 3)
    refine dz_callV (rest := []) x.1 dd rm cl_Law_101 (c_Model_at l D Dt b _ J1 W T n g c S w nb Bk H MJ1 (sp_sx xs (i + 1)) h1 (sp_sx xs (i + 2)) h2 (sp_sx xs (i + 3)) h3) (by decide) (by omega) (by omega) (ly_Model b) rfl rfl rfl rfl (Nat.le_of_ble_eq_true rfl) d_Law_law_600 (fun v sz2 sk2 rf2 J2 hp => ?_)
    obtain ⟨rfl, rfl, rfl, hp⟩ := hp
    rcases hp with ⟨FJ2, MJ2, ⟨hm, rfl, hthr⟩ | ⟨hm, hthr, rfl⟩⟩
    · exfalso; first | omega | exact hc hm | exact hm hc | exact hm hc.1 | exact hc.1 hm | exact hm.1 hc | exact hc hm.1 | exact hc hm.1.1
    · have CJ2 := CJ1.lo (J := J2) (fun q hq => FJ2 q (fun z => by omega))
      refine dz_istore (ls' := [(0, .ref b0), (1, .ref (b + 0)), (2, .ref (b + 130)), (3, .ref (b + 145)), (4, .int (dz_i i)), (5, .int (dz_i 1)), (6, .int (dz_i 0))]) x.1 d_Law_law_603 hN (by decide) rfl ?_
      refine dz_aload_n x.1 2 d_Law_law_605 rfl rfl ?_
      refine dz_callV (rest := []) x.1 dd rm cl_Law_59 (c_Model_thrown l D Dt b _ J2 1 hthr) (by decide) (by omega) (by omega) (ly_Model b) rfl rfl rfl rfl (Nat.le_of_ble_eq_true rfl) d_Law_law_606 (fun v sz3 sk3 rf3 J3 hp => ?_)
      obtain ⟨rfl, rfl, rfl, hp⟩ := hp
      obtain ⟨rfl, hI⟩ := hp
      have hI := hI.symm
      subst hI
      refine dz_iload x.1 5 d_Law_law_609 rfl ?_
      refine dz_icmp_eq (tgt := 616) x.1 d_Law_law_611 (by decide) (by omega) (by omega) (fun hc611 => ?_) (fun hc611 => by exfalso; omega)
      refine dz_iload x.1 5 d_Law_law_616 rfl ?_
      refine dz_if_ne (tgt := 633) x.1 d_Law_law_618 (by decide) (by omega) (fun hc618 => ?_) (fun hc618 => by exfalso; omega)
      refine dz_goto (tgt := 728) x.1 d_Law_law_633 (by decide) ?_
      refine dz_take 5 (ls' := [(0, .ref b0), (1, .ref (b + 0)), (2, .ref (b + 130)), (3, .ref (b + 145)), (4, .int (dz_i i))]) rfl ?_
      exact (k9 _ J2 ⟨_, _, _, _, _, _, _, _, CJ2, MJ2⟩)
set_option maxRecDepth 100000 in
set_option maxHeartbeats 4000000 in
theorem t_where (hst9 : l.stackTraces = false) (x : dz_Am κ b_Law_law R_Law ∧ True) (dd : dz_Dd κ l D Dt 7) (rm : dz_Rm κ 15 601024 7293000) (sc : dz_Sc κ b0 L xs) (hL : L ≤ 2050) (hi : 0 ≤ i ∧ i + 4 ≤ (L : Int)) (hce : cells ≤ 2000 ∧ slots ≤ 100000) (CI : sp_CL b J W T n g c S w nb Bk H) (MI : sp_MO b J W T n g c S w nb Bk H) (k9 : ∀ (sz' : Nat) (J' : dz_Hp), lw_I b J' W T → dz_V κ (cells + 1) (slots + 6) sz' (ly_s b) (ly_r b) J' 728 (lw_ls b b0 i) []) : dz_V κ cells slots sz (ly_s b) (ly_r b) J 636 (lw_ls b b0 i) [] := by
  have hN := dz_dd_N dd
  show dz_V κ cells slots sz (ly_s b) (ly_r b) J 636 [(0, .ref b0), (1, .ref (b + 0)), (2, .ref (b + 130)), (3, .ref (b + 145)), (4, .int (dz_i i))] []
  have h1 := sp_sx_rng xs (i + 1)
  refine dz_aload_n x.1 1 d_Law_law_636 rfl rfl ?_
  refine dz_aload_n x.1 0 d_Law_law_637 rfl rfl ?_
  refine dz_iload x.1 4 d_Law_law_638 rfl ?_
  refine dz_iconst x.1 d_Law_law_640 ?_
  refine dz_iadd (z := i + 1) x.1 d_Law_law_641 (by omega) ?_
  refine dz_sld x.1 sc hL (by omega) d_Law_law_642 ?_
  have hx642 := sp_sx_rng xs (i + 1)
  refine dz_aload_n x.1 3 d_Law_law_643 rfl rfl ?_
  refine dz_callSW (rest := []) x.1 dd rm cw_Law_102 (c_Law_where l hst9 D Dt b sz J W T n g c S w nb Bk H CI (sp_sx xs (i + 1)) h1) (by decide) (by omega) (by omega) rfl rfl (Nat.le_of_ble_eq_true rfl) d_Law_law_644 (fun v sz1 sk1 rf1 J1 hp => ?_)
  obtain ⟨hsz, rfl, rfl, hp⟩ := hp
  rcases hp with ⟨rfl, hc, hout, CJ1, FJ1⟩ | ⟨rfl, hc, CJ1, FJ1⟩
  · have MJ1 := MI.hi (J := J1) (fun q h1 h2 => FJ1 q (fun z => by rcases z with z | z <;> omega))
    refine dz_istore (ls' := [(0, .ref b0), (1, .ref (b + 0)), (2, .ref (b + 130)), (3, .ref (b + 145)), (4, .int (dz_i i)), (5, .int (dz_i 0))]) x.1 d_Law_law_647 hN (by decide) rfl ?_
    refine dz_aload_n x.1 2 d_Law_law_649 rfl rfl ?_
    refine dz_aload_n x.1 0 d_Law_law_650 rfl rfl ?_
    refine dz_iload x.1 4 d_Law_law_651 rfl ?_
    refine dz_iconst x.1 d_Law_law_653 ?_
    refine dz_iadd (z := i + 1) x.1 d_Law_law_654 (by omega) ?_
    refine dz_sld x.1 sc hL (by omega) d_Law_law_655 ?_
    have hx655 := sp_sx_rng xs (i + 1)
    refine dz_callV (rest := []) x.1 dd rm cl_Law_104 (c_Model_where l D Dt b _ J1 W T n g c S w nb Bk H MJ1 (sp_sx xs (i + 1)) h1) (by decide) (by omega) (by omega) (ly_Model b) rfl rfl rfl rfl (Nat.le_of_ble_eq_true rfl) d_Law_law_656 (fun v sz2 sk2 rf2 J2 hp => ?_)
    obtain ⟨rfl, rfl, rfl, hp⟩ := hp
    rcases hp with ⟨FJ2, MJ2, ⟨hm, rfl, hthr⟩ | ⟨hm, hthr, rfl⟩⟩
    · have CJ2 := CJ1.lo (J := J2) (fun q hq => FJ2 q (fun z => by omega))
      have ho2 : J2 (b + 145) 0 = (if 0 < (sp_bl W (Bk (sp_sx xs (i + 1)).toNat)).length then (sp_pp W T Bk (sp_sx xs (i + 1)).toNat).1 * 32 + (sp_pp W T Bk (sp_sx xs (i + 1)).toNat).2 else -1) := by rw [FJ2 _ (fun z => by omega)]; exact hout
      refine dz_istore (ls' := [(0, .ref b0), (1, .ref (b + 0)), (2, .ref (b + 130)), (3, .ref (b + 145)), (4, .int (dz_i i)), (5, .int (dz_i 0)), (6, .int (dz_i (if 0 < (sp_bl W (Bk (sp_sx xs (i + 1)).toNat)).length then (sp_pp W T Bk (sp_sx xs (i + 1)).toNat).1 * 32 + (sp_pp W T Bk (sp_sx xs (i + 1)).toNat).2 else -1)))]) x.1 d_Law_law_659 hN (by decide) rfl ?_
      refine dz_aload_n x.1 2 d_Law_law_661 rfl rfl ?_
      refine dz_callV (rest := []) x.1 dd rm cl_Law_59 (c_Model_thrown l D Dt b _ J2 0 hthr) (by decide) (by omega) (by omega) (ly_Model b) rfl rfl rfl rfl (Nat.le_of_ble_eq_true rfl) d_Law_law_662 (fun v sz3 sk3 rf3 J3 hp => ?_)
      obtain ⟨rfl, rfl, rfl, hp⟩ := hp
      obtain ⟨rfl, hI⟩ := hp
      have hI := hI.symm
      subst hI
      refine dz_iload x.1 5 d_Law_law_665 rfl ?_
      refine dz_icmp_eq (tgt := 672) x.1 d_Law_law_667 (by decide) (by omega) (by omega) (fun hc667 => ?_) (fun hc667 => by exfalso; omega)
      refine dz_iload x.1 5 d_Law_law_672 rfl ?_
      refine dz_if_ne (tgt := 689) x.1 d_Law_law_674 (by decide) (by omega) (fun hc674 => by exfalso; omega) (fun hc674 => ?_)
      refine dz_aload_n x.1 3 d_Law_law_677 rfl rfl ?_
      refine dz_iconst x.1 d_Law_law_678 ?_
      refine dz_lald (w := (if 0 < (sp_bl W (Bk (sp_sx xs (i + 1)).toNat)).length then (sp_pp W T Bk (sp_sx xs (i + 1)).toNat).1 * 32 + (sp_pp W T Bk (sp_sx xs (i + 1)).toNat).2 else -1)) x.1 (ly_Out b) (by decide) (by omega) d_Law_law_679 ho2 ?_
      refine dz_iload x.1 6 d_Law_law_680 rfl ?_
      refine dz_i2l x.1 d_Law_law_682 ?_
      refine dz_lcmp x.1 d_Law_law_683 rfl ?_
      refine dz_if_eq (tgt := 689) x.1 d_Law_law_684 (by decide) (by omega) (fun hc684 => ?_) (fun hc684 => by exfalso; omega)
      refine dz_goto (tgt := 728) x.1 d_Law_law_689 (by decide) ?_
      refine dz_take 5 (ls' := [(0, .ref b0), (1, .ref (b + 0)), (2, .ref (b + 130)), (3, .ref (b + 145)), (4, .int (dz_i i))]) rfl ?_
      exact (k9 _ J2 ⟨_, _, _, _, _, _, _, _, CJ2, MJ2⟩)
    · exfalso; first | omega | exact hc hm | exact hm hc | exact hm hc.1 | exact hc.1 hm | exact hm.1 hc | exact hc hm.1 | exact hc hm.1.1
  · have MJ1 := MI.hi (J := J1) (fun q h1 h2 => FJ1 q (fun z => by rcases z with z | z <;> omega))
    refine dz_istore (ls' := [(0, .ref b0), (1, .ref (b + 0)), (2, .ref (b + 130)), (3, .ref (b + 145)), (4, .int (dz_i i)), (5, .int (dz_i 1))]) x.1 d_Law_law_647 hN (by decide) rfl ?_
    refine dz_aload_n x.1 2 d_Law_law_649 rfl rfl ?_
    refine dz_aload_n x.1 0 d_Law_law_650 rfl rfl ?_
    refine dz_iload x.1 4 d_Law_law_651 rfl ?_
    refine dz_iconst x.1 d_Law_law_653 ?_
    refine dz_iadd (z := i + 1) x.1 d_Law_law_654 (by omega) ?_
    refine dz_sld x.1 sc hL (by omega) d_Law_law_655 ?_
    have hx655 := sp_sx_rng xs (i + 1)
    refine dz_callV (rest := []) x.1 dd rm cl_Law_104 (c_Model_where l D Dt b _ J1 W T n g c S w nb Bk H MJ1 (sp_sx xs (i + 1)) h1) (by decide) (by omega) (by omega) (ly_Model b) rfl rfl rfl rfl (Nat.le_of_ble_eq_true rfl) d_Law_law_656 (fun v sz2 sk2 rf2 J2 hp => ?_)
    obtain ⟨rfl, rfl, rfl, hp⟩ := hp
    rcases hp with ⟨FJ2, MJ2, ⟨hm, rfl, hthr⟩ | ⟨hm, hthr, rfl⟩⟩
    · exfalso; first | omega | exact hc hm | exact hm hc | exact hm hc.1 | exact hc.1 hm | exact hm.1 hc | exact hc hm.1 | exact hc hm.1.1
    · have CJ2 := CJ1.lo (J := J2) (fun q hq => FJ2 q (fun z => by omega))
      refine dz_istore (ls' := [(0, .ref b0), (1, .ref (b + 0)), (2, .ref (b + 130)), (3, .ref (b + 145)), (4, .int (dz_i i)), (5, .int (dz_i 1)), (6, .int (dz_i 0))]) x.1 d_Law_law_659 hN (by decide) rfl ?_
      refine dz_aload_n x.1 2 d_Law_law_661 rfl rfl ?_
      refine dz_callV (rest := []) x.1 dd rm cl_Law_59 (c_Model_thrown l D Dt b _ J2 1 hthr) (by decide) (by omega) (by omega) (ly_Model b) rfl rfl rfl rfl (Nat.le_of_ble_eq_true rfl) d_Law_law_662 (fun v sz3 sk3 rf3 J3 hp => ?_)
      obtain ⟨rfl, rfl, rfl, hp⟩ := hp
      obtain ⟨rfl, hI⟩ := hp
      have hI := hI.symm
      subst hI
      refine dz_iload x.1 5 d_Law_law_665 rfl ?_
      refine dz_icmp_eq (tgt := 672) x.1 d_Law_law_667 (by decide) (by omega) (by omega) (fun hc667 => ?_) (fun hc667 => by exfalso; omega)
      refine dz_iload x.1 5 d_Law_law_672 rfl ?_
      refine dz_if_ne (tgt := 689) x.1 d_Law_law_674 (by decide) (by omega) (fun hc674 => ?_) (fun hc674 => by exfalso; omega)
      refine dz_goto (tgt := 728) x.1 d_Law_law_689 (by decide) ?_
      refine dz_take 5 (ls' := [(0, .ref b0), (1, .ref (b + 0)), (2, .ref (b + 130)), (3, .ref (b + 145)), (4, .int (dz_i i))]) rfl ?_
      exact (k9 _ J2 ⟨_, _, _, _, _, _, _, _, CJ2, MJ2⟩)
set_option maxRecDepth 100000 in
set_option maxHeartbeats 4000000 in
theorem t_wipe (hst9 : l.stackTraces = false) (x : dz_Am κ b_Law_law R_Law ∧ True) (dd : dz_Dd κ l D Dt 7) (rm : dz_Rm κ 15 601024 7293000) (sc : dz_Sc κ b0 L xs) (hL : L ≤ 2050) (hi : 0 ≤ i ∧ i + 4 ≤ (L : Int)) (hce : cells ≤ 2000 ∧ slots ≤ 100000) (CI : sp_CL b J W T n g c S w nb Bk H) (MI : sp_MO b J W T n g c S w nb Bk H) (k9 : ∀ (sz' : Nat) (J' : dz_Hp), lw_I b J' W T → dz_V κ (cells + 1) (slots + 6) sz' (ly_s b) (ly_r b) J' 728 (lw_ls b b0 i) []) : dz_V κ cells slots sz (ly_s b) (ly_r b) J 186 (lw_ls b b0 i) [] := by
  have hN := dz_dd_N dd
  show dz_V κ cells slots sz (ly_s b) (ly_r b) J 186 [(0, .ref b0), (1, .ref (b + 0)), (2, .ref (b + 130)), (3, .ref (b + 145)), (4, .int (dz_i i))] []
  refine dz_aload_n x.1 1 d_Law_law_186 rfl rfl ?_
  refine dz_callV (rest := []) x.1 dd rm cl_Law_63 (c_DotBook_wipe l D Dt b sz J W T n g c S w nb Bk H CI) (by decide) (by omega) (by omega) (ly_DotBook b) rfl rfl rfl rfl (Nat.le_of_ble_eq_true rfl) d_Law_law_187 (fun v szJ1 sk1 rf1 J1 hp => ?_)
  obtain ⟨rfl, rfl, rfl, hp⟩ := hp
  obtain ⟨rfl, CJ1, FJ1⟩ := hp
  have MJ1 := MI.hi (J := J1) (fun q h1 h2 => FJ1 q (fun z => by omega))
  refine dz_aload_n x.1 2 d_Law_law_190 rfl rfl ?_
  refine dz_callV (rest := []) x.1 dd rm cl_Law_66 (c_Model_wipe l D Dt b _ J1 W T n g c S w nb Bk H MJ1) (by decide) (by omega) (by omega) (ly_Model b) rfl rfl rfl rfl (Nat.le_of_ble_eq_true rfl) d_Law_law_191 (fun v szJ2 sk1 rf1 J2 hp => ?_)
  obtain ⟨rfl, rfl, rfl, hp⟩ := hp
  obtain ⟨rfl, FJ2, -, MJ2⟩ := hp
  have CJ2 := CJ1.lo (J := J2) (fun q hq => FJ2 q (fun z => by omega))
  refine dz_goto (tgt := 728) x.1 d_Law_law_194 (by decide) ?_
  exact dz_widen (k := cells + 1) (n := slots + 6) (by omega) (by omega) (k9 _ J2 ⟨_, _, _, _, _, _, _, _, CJ2, MJ2⟩)
set_option maxRecDepth 100000 in
set_option maxHeartbeats 4000000 in
theorem t_clear (hst9 : l.stackTraces = false) (x : dz_Am κ b_Law_law R_Law ∧ True) (dd : dz_Dd κ l D Dt 7) (rm : dz_Rm κ 15 601024 7293000) (sc : dz_Sc κ b0 L xs) (hL : L ≤ 2050) (hi : 0 ≤ i ∧ i + 4 ≤ (L : Int)) (hce : cells ≤ 2000 ∧ slots ≤ 100000) (CI : sp_CL b J W T n g c S w nb Bk H) (MI : sp_MO b J W T n g c S w nb Bk H) (k9 : ∀ (sz' : Nat) (J' : dz_Hp), lw_I b J' W T → dz_V κ (cells + 1) (slots + 6) sz' (ly_s b) (ly_r b) J' 728 (lw_ls b b0 i) []) : dz_V κ cells slots sz (ly_s b) (ly_r b) J 717 (lw_ls b b0 i) [] := by
  have hN := dz_dd_N dd
  show dz_V κ cells slots sz (ly_s b) (ly_r b) J 717 [(0, .ref b0), (1, .ref (b + 0)), (2, .ref (b + 130)), (3, .ref (b + 145)), (4, .int (dz_i i))] []
  refine dz_aload_n x.1 1 d_Law_law_717 rfl rfl ?_
  refine dz_callV (rest := []) x.1 dd rm cl_Law_109 (c_DotBook_clear l D Dt b sz J W T n g c S w nb Bk H CI) (by decide) (by omega) (by omega) (ly_DotBook b) rfl rfl rfl rfl (Nat.le_of_ble_eq_true rfl) d_Law_law_718 (fun v szJ1 sk1 rf1 J1 hp => ?_)
  obtain ⟨rfl, rfl, rfl, hp⟩ := hp
  obtain ⟨rfl, CJ1, FJ1⟩ := hp
  have MJ1 := MI.hi (J := J1) (fun q h1 h2 => FJ1 q (fun z => by omega))
  refine dz_aload_n x.1 2 d_Law_law_721 rfl rfl ?_
  refine dz_callV (rest := []) x.1 dd rm cl_Law_112 (c_Model_clear l D Dt b _ J1 W T n g c S w nb Bk H MJ1) (by decide) (by omega) (by omega) (ly_Model b) rfl rfl rfl rfl (Nat.le_of_ble_eq_true rfl) d_Law_law_722 (fun v szJ2 sk1 rf1 J2 hp => ?_)
  obtain ⟨rfl, rfl, rfl, hp⟩ := hp
  obtain ⟨rfl, FJ2, MJ2⟩ := hp
  have CJ2 := CJ1.lo (J := J2) (fun q hq => FJ2 q (fun z => by omega))
  refine dz_goto (tgt := 728) x.1 d_Law_law_725 (by decide) ?_
  exact dz_widen (k := cells + 1) (n := slots + 6) (by omega) (by omega) (k9 _ J2 ⟨_, _, _, _, _, _, _, _, CJ2, MJ2⟩)
set_option maxRecDepth 100000 in
set_option maxHeartbeats 4000000 in
theorem t_wrong (hst9 : l.stackTraces = false) (x : dz_Am κ b_Law_law R_Law ∧ True) (dd : dz_Dd κ l D Dt 7) (rm : dz_Rm κ 15 601024 7293000) (sc : dz_Sc κ b0 L xs) (hL : L ≤ 2050) (hi : 0 ≤ i ∧ i + 4 ≤ (L : Int)) (hce : cells ≤ 2000 ∧ slots ≤ 100000) (CI : sp_CL b J W T n g c S w nb Bk H) (MI : sp_MO b J W T n g c S w nb Bk H) (k9 : ∀ (sz' : Nat) (J' : dz_Hp), lw_I b J' W T → dz_V κ (cells + 1) (slots + 6) sz' (ly_s b) (ly_r b) J' 728 (lw_ls b b0 i) []) : dz_V κ cells slots sz (ly_s b) (ly_r b) J 269 (lw_ls b b0 i) [] := by
  have hN := dz_dd_N dd
  show dz_V κ cells slots sz (ly_s b) (ly_r b) J 269 [(0, .ref b0), (1, .ref (b + 0)), (2, .ref (b + 130)), (3, .ref (b + 145)), (4, .int (dz_i i))] []
  refine dz_aload_n x.1 1 d_Law_law_269 rfl rfl ?_
  refine dz_callV (rest := []) x.1 dd rm cl_Law_71 (c_DotBook_wrong l D Dt b sz J W T n g c S w nb Bk H CI) (by decide) (by omega) (by omega) (ly_DotBook b) rfl rfl rfl rfl (Nat.le_of_ble_eq_true rfl) d_Law_law_270 (fun v szJ1 sk1 rf1 J1 hp => ?_)
  obtain ⟨rfl, rfl, rfl, hp⟩ := hp
  obtain ⟨rfl, hI⟩ := hp
  have CJ1 := CI.lo (J := J1) (fun q _ => by rw [hI])
  have MJ1 := MI.hi (J := J1) (fun q _ _ => by rw [hI])
  refine dz_aload_n x.1 2 d_Law_law_273 rfl rfl ?_
  refine dz_callV (rest := [.int (dz_i w)]) x.1 dd rm cl_Law_74 (c_Model_wrong l D Dt b _ J1 W T n g c S w nb Bk H MJ1) (by decide) (by omega) (by omega) (ly_Model b) rfl rfl rfl rfl (Nat.le_of_ble_eq_true rfl) d_Law_law_274 (fun v szJ2 sk1 rf1 J2 hp => ?_)
  obtain ⟨rfl, rfl, rfl, hp⟩ := hp
  obtain ⟨rfl, FJ2, MJ2⟩ := hp
  have CJ2 := CJ1.lo (J := J2) (fun q hq => FJ2 q (fun z => by omega))
  refine dz_icmpS (tgt := 728) x.1 d_Law_law_277 (by decide) ?_
  exact dz_widen (k := cells + 1) (n := slots + 6) (by omega) (by omega) (k9 _ J2 ⟨_, _, _, _, _, _, _, _, CJ2, MJ2⟩)
set_option maxRecDepth 100000 in
set_option maxHeartbeats 4000000 in
theorem t_heard (hst9 : l.stackTraces = false) (x : dz_Am κ b_Law_law R_Law ∧ True) (dd : dz_Dd κ l D Dt 7) (rm : dz_Rm κ 15 601024 7293000) (sc : dz_Sc κ b0 L xs) (hL : L ≤ 2050) (hi : 0 ≤ i ∧ i + 4 ≤ (L : Int)) (hce : cells ≤ 2000 ∧ slots ≤ 100000) (CI : sp_CL b J W T n g c S w nb Bk H) (MI : sp_MO b J W T n g c S w nb Bk H) (k9 : ∀ (sz' : Nat) (J' : dz_Hp), lw_I b J' W T → dz_V κ (cells + 1) (slots + 6) sz' (ly_s b) (ly_r b) J' 728 (lw_ls b b0 i) []) : dz_V κ cells slots sz (ly_s b) (ly_r b) J 518 (lw_ls b b0 i) [] := by
  have hN := dz_dd_N dd
  show dz_V κ cells slots sz (ly_s b) (ly_r b) J 518 [(0, .ref b0), (1, .ref (b + 0)), (2, .ref (b + 130)), (3, .ref (b + 145)), (4, .int (dz_i i))] []
  have h1 := sp_sx_rng xs (i + 1)
  refine dz_aload_n x.1 1 d_Law_law_518 rfl rfl ?_
  refine dz_aload_n x.1 0 d_Law_law_519 rfl rfl ?_
  refine dz_iload x.1 4 d_Law_law_520 rfl ?_
  refine dz_iconst x.1 d_Law_law_522 ?_
  refine dz_iadd (z := i + 1) x.1 d_Law_law_523 (by omega) ?_
  refine dz_sld x.1 sc hL (by omega) d_Law_law_524 ?_
  have hx524 := sp_sx_rng xs (i + 1)
  refine dz_callV (rest := []) x.1 dd rm cl_Law_89 (c_DotBook_heard l D Dt b sz J W T n g c S w nb Bk H CI (sp_sx xs (i + 1)) h1) (by decide) (by omega) (by omega) (ly_DotBook b) rfl rfl rfl rfl (Nat.le_of_ble_eq_true rfl) d_Law_law_525 (fun v szJ1 sk1 rf1 J1 hp => ?_)
  obtain ⟨rfl, rfl, rfl, hp⟩ := hp
  obtain ⟨rfl, hI⟩ := hp
  have CJ1 := CI.lo (J := J1) (fun q _ => by rw [hI])
  have MJ1 := MI.hi (J := J1) (fun q _ _ => by rw [hI])
  refine dz_aload_n x.1 2 d_Law_law_528 rfl rfl ?_
  refine dz_aload_n x.1 0 d_Law_law_529 rfl rfl ?_
  refine dz_iload x.1 4 d_Law_law_530 rfl ?_
  refine dz_iconst x.1 d_Law_law_532 ?_
  refine dz_iadd (z := i + 1) x.1 d_Law_law_533 (by omega) ?_
  refine dz_sld x.1 sc hL (by omega) d_Law_law_534 ?_
  have hx534 := sp_sx_rng xs (i + 1)
  refine dz_callV (rest := [.int (dz_i (if 0 ≤ (sp_sx xs (i + 1)) ∧ (sp_sx xs (i + 1)) < (H.length : Int) then H.getD (sp_sx xs (i + 1)).toNat 0 else 32))]) x.1 dd rm cl_Law_93 (c_Model_heard l D Dt b _ J1 W T n g c S w nb Bk H MJ1 (sp_sx xs (i + 1)) h1) (by decide) (by omega) (by omega) (ly_Model b) rfl rfl rfl rfl (Nat.le_of_ble_eq_true rfl) d_Law_law_535 (fun v szJ2 sk1 rf1 J2 hp => ?_)
  obtain ⟨rfl, rfl, rfl, hp⟩ := hp
  obtain ⟨rfl, FJ2, MJ2⟩ := hp
  have CJ2 := CJ1.lo (J := J2) (fun q hq => FJ2 q (fun z => by omega))
  refine dz_icmpS (tgt := 728) x.1 d_Law_law_538 (by decide) ?_
  exact dz_widen (k := cells + 1) (n := slots + 6) (by omega) (by omega) (k9 _ J2 ⟨_, _, _, _, _, _, _, _, CJ2, MJ2⟩)
set_option maxRecDepth 100000 in
set_option maxHeartbeats 4000000 in
theorem t_pages (hst9 : l.stackTraces = false) (x : dz_Am κ b_Law_law R_Law ∧ True) (dd : dz_Dd κ l D Dt 7) (rm : dz_Rm κ 15 601024 7293000) (sc : dz_Sc κ b0 L xs) (hL : L ≤ 2050) (hi : 0 ≤ i ∧ i + 4 ≤ (L : Int)) (hce : cells ≤ 2000 ∧ slots ≤ 100000) (CI : sp_CL b J W T n g c S w nb Bk H) (MI : sp_MO b J W T n g c S w nb Bk H) (k9 : ∀ (sz' : Nat) (J' : dz_Hp), lw_I b J' W T → dz_V κ (cells + 1) (slots + 6) sz' (ly_s b) (ly_r b) J' 728 (lw_ls b b0 i) []) : dz_V κ cells slots sz (ly_s b) (ly_r b) J 543 (lw_ls b b0 i) [] := by
  have hN := dz_dd_N dd
  show dz_V κ cells slots sz (ly_s b) (ly_r b) J 543 [(0, .ref b0), (1, .ref (b + 0)), (2, .ref (b + 130)), (3, .ref (b + 145)), (4, .int (dz_i i))] []
  refine dz_aload_n x.1 1 d_Law_law_543 rfl rfl ?_
  refine dz_callV (rest := []) x.1 dd rm cl_Law_94 (c_DotBook_pages l D Dt b sz J W T n g c S w nb Bk H CI) (by decide) (by omega) (by omega) (ly_DotBook b) rfl rfl rfl rfl (Nat.le_of_ble_eq_true rfl) d_Law_law_544 (fun v szJ1 sk1 rf1 J1 hp => ?_)
  obtain ⟨rfl, rfl, rfl, hp⟩ := hp
  obtain ⟨rfl, hI⟩ := hp
  have CJ1 := CI.lo (J := J1) (fun q _ => by rw [hI])
  have MJ1 := MI.hi (J := J1) (fun q _ _ => by rw [hI])
  refine dz_aload_n x.1 2 d_Law_law_547 rfl rfl ?_
  refine dz_callV (rest := [.int (dz_i ((sp_bs W T Bk nb).2.2))]) x.1 dd rm cl_Law_97 (c_Model_pages l D Dt b _ J1 W T n g c S w nb Bk H MJ1) (by decide) (by omega) (by omega) (ly_Model b) rfl rfl rfl rfl (Nat.le_of_ble_eq_true rfl) d_Law_law_548 (fun v szJ2 sk1 rf1 J2 hp => ?_)
  obtain ⟨rfl, rfl, rfl, hp⟩ := hp
  obtain ⟨rfl, FJ2, MJ2⟩ := hp
  have CJ2 := CJ1.lo (J := J2) (fun q hq => FJ2 q (fun z => by omega))
  refine dz_icmpS (tgt := 728) x.1 d_Law_law_551 (by decide) ?_
  exact dz_widen (k := cells + 1) (n := slots + 6) (by omega) (by omega) (k9 _ J2 ⟨_, _, _, _, _, _, _, _, CJ2, MJ2⟩)
set_option maxRecDepth 100000 in
set_option maxHeartbeats 4000000 in
theorem t_heading (hst9 : l.stackTraces = false) (x : dz_Am κ b_Law_law R_Law ∧ True) (dd : dz_Dd κ l D Dt 7) (rm : dz_Rm κ 15 601024 7293000) (sc : dz_Sc κ b0 L xs) (hL : L ≤ 2050) (hi : 0 ≤ i ∧ i + 4 ≤ (L : Int)) (hce : cells ≤ 2000 ∧ slots ≤ 100000) (CI : sp_CL b J W T n g c S w nb Bk H) (MI : sp_MO b J W T n g c S w nb Bk H) (k9 : ∀ (sz' : Nat) (J' : dz_Hp), lw_I b J' W T → dz_V κ (cells + 1) (slots + 6) sz' (ly_s b) (ly_r b) J' 728 (lw_ls b b0 i) []) : dz_V κ cells slots sz (ly_s b) (ly_r b) J 692 (lw_ls b b0 i) [] := by
  have hN := dz_dd_N dd
  show dz_V κ cells slots sz (ly_s b) (ly_r b) J 692 [(0, .ref b0), (1, .ref (b + 0)), (2, .ref (b + 130)), (3, .ref (b + 145)), (4, .int (dz_i i))] []
  have h1 := sp_sx_rng xs (i + 1)
  refine dz_aload_n x.1 1 d_Law_law_692 rfl rfl ?_
  refine dz_aload_n x.1 0 d_Law_law_693 rfl rfl ?_
  refine dz_iload x.1 4 d_Law_law_694 rfl ?_
  refine dz_iconst x.1 d_Law_law_696 ?_
  refine dz_iadd (z := i + 1) x.1 d_Law_law_697 (by omega) ?_
  refine dz_sld x.1 sc hL (by omega) d_Law_law_698 ?_
  have hx698 := sp_sx_rng xs (i + 1)
  refine dz_callV (rest := []) x.1 dd rm cl_Law_105 (c_DotBook_heading l D Dt b sz J W T n g c S w nb Bk H CI (sp_sx xs (i + 1)) h1) (by decide) (by omega) (by omega) (ly_DotBook b) rfl rfl rfl rfl (Nat.le_of_ble_eq_true rfl) d_Law_law_699 (fun v szJ1 sk1 rf1 J1 hp => ?_)
  obtain ⟨rfl, rfl, rfl, hp⟩ := hp
  obtain ⟨rfl, hI⟩ := hp
  have CJ1 := CI.lo (J := J1) (fun q _ => by rw [hI])
  have MJ1 := MI.hi (J := J1) (fun q _ _ => by rw [hI])
  refine dz_aload_n x.1 2 d_Law_law_702 rfl rfl ?_
  refine dz_aload_n x.1 0 d_Law_law_703 rfl rfl ?_
  refine dz_iload x.1 4 d_Law_law_704 rfl ?_
  refine dz_iconst x.1 d_Law_law_706 ?_
  refine dz_iadd (z := i + 1) x.1 d_Law_law_707 (by omega) ?_
  refine dz_sld x.1 sc hL (by omega) d_Law_law_708 ?_
  have hx708 := sp_sx_rng xs (i + 1)
  refine dz_callV (rest := [.int (dz_i (sp_hdg W Bk (sp_sx xs (i + 1)) nb 0 0))]) x.1 dd rm cl_Law_108 (c_Model_heading l D Dt b _ J1 W T n g c S w nb Bk H MJ1 (sp_sx xs (i + 1)) h1) (by decide) (by omega) (by omega) (ly_Model b) rfl rfl rfl rfl (Nat.le_of_ble_eq_true rfl) d_Law_law_709 (fun v szJ2 sk1 rf1 J2 hp => ?_)
  obtain ⟨rfl, rfl, rfl, hp⟩ := hp
  obtain ⟨rfl, FJ2, MJ2⟩ := hp
  have CJ2 := CJ1.lo (J := J2) (fun q hq => FJ2 q (fun z => by omega))
  refine dz_icmpS (tgt := 728) x.1 d_Law_law_712 (by decide) ?_
  exact dz_widen (k := cells + 1) (n := slots + 6) (by omega) (by omega) (k9 _ J2 ⟨_, _, _, _, _, _, _, _, CJ2, MJ2⟩)
end lw_turns
