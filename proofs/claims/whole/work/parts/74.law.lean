def R_law : String := "SlangYearsLaw"
def lw_P (b : Addr) (xs : List Int32) (args : Array Value) (s : State) : Prop := args = #[.ref b] ∧ s.IntsAt b xs ∧ xs.length ≤ 3072 ∧ (Jvm.Cond.and given_1 narrow_1).before args s = true
def lw_Q (_ : Array Value) (s : State) (o : Outcome) (t : State) : Prop := o = .returned (some (.int 1)) ∧ Framed s o t [] 600000 7302249
def lw_Z (below : List Frame) (a : Array Value) (s : State) : State → Prop := fun t => ∃ o, t.status = .running ∧ Ended t below o ∧ lw_Q a s o t
/-- the law's own end, with 1 on the stack, nothing written that was there before, its room as the claim has it -/
theorem lw_ret {p : Program} {l : Launch} {e : Env} {s : State} {m : MethodId} {below : List Frame} {meth : Method} {c : Code} {b : Nat} (hx : p.tables.exec = Jvm.exec) (hb : c.code = code) (hr : meth.sig.returnType = ret) (hlocks : meth.locks = false) {pc : Nat} {H : Heap} {ls : Array Slot} (hdg : decode code pc = .ok (.ireturn, 1)) : W p l e room_1 s m #[Value.ref b] below meth c H [] 600000 7302249 (lw_Z below #[Value.ref b] s) (F0 m pc ls [.int 1]) := by
  intro T hT X
  obtain ⟨fs, hret, hrun, hended, hW, hframe⟩ := X.leave (v := some (.int 1)) (hlocks := hlocks) (fun h => by rw [hr] at h; cases h)
  have hmeth' : T.vm.method? m = some meth := X.method'
  refine ⟨T.setFrames fs, ?_, .returned (some (.int 1)), hrun, hended, rfl, ⟨_, rfl⟩, hW, hframe⟩
  jvm_step X.here [X.here.top, hx, hb, hdg, hmeth', hr, ret, narrow_b1]
  (try refine ⟨rfl, ?_⟩); (try refine ⟨rfl, ?_⟩)
  first | (intro acts; rw [hret _ acts rfl rfl rfl]) | rw [hret _ _ rfl rfl rfl]
  exact Steps.refl _
/-- what holds at the law's entry: the machine, the code, the tables' words (any of lw_tbl by 'hts w (by decide +kernel)'), the script of L ints xs at the cell b, what the Statement gives of the start (any of its parts by flat_of_before) -/
def lw_At (p : Program) (s : State) (m : MethodId) (meth : Method) (c : Code) (b L : Nat) (xs : Nat → Int32) : Prop :=
  p.tables.exec = Jvm.exec ∧ c.code = code ∧ meth.sig.returnType = ret ∧ c.maxLocals = 4 ∧ s.vm.findClass R_law = some m.cls ∧ (∀ w ∈ lw_tbl, w.before #[Value.ref b] s = true) ∧ va_X b L xs s s.heap ∧ b < s.heap.size ∧ meth.locks = false ∧ (Jvm.Cond.and given_1 narrow_1).before #[Value.ref b] s = true
/-- the law's end, for any arguments -/
theorem lw_retA {p : Program} {l : Launch} {e : Env} {s : State} {m : MethodId} {args : Array Value} {below : List Frame} {meth : Method} {c : Code} (hx : p.tables.exec = Jvm.exec) (hb : c.code = code) (hr : meth.sig.returnType = ret) (hlocks : meth.locks = false) {pc : Nat} {H : Heap} {ls : Array Slot} (hdg : decode code pc = .ok (.ireturn, 1)) : W p l e room_1 s m args below meth c H [] 600000 7302249 (lw_Z below args s) (F0 m pc ls [.int 1]) := by
  intro T hT X
  obtain ⟨fs, hret, hrun, hended, hW, hframe⟩ := X.leave (v := some (.int 1)) (hlocks := hlocks) (fun h => by rw [hr] at h; cases h)
  have hmeth' : T.vm.method? m = some meth := X.method'
  refine ⟨T.setFrames fs, ?_, .returned (some (.int 1)), hrun, hended, rfl, ⟨_, rfl⟩, hW, hframe⟩
  jvm_step X.here [X.here.top, hx, hb, hdg, hmeth', hr, ret, narrow_b1]
  (try refine ⟨rfl, ?_⟩); (try refine ⟨rfl, ?_⟩)
  first | (intro acts; rw [hret _ acts rfl rfl rfl]) | rw [hret _ _ rfl rfl rfl]
  exact Steps.refl _
theorem zSl_room : zSl 238 ≤ 7302249 := by decide +kernel
theorem zSl_rm : zSl 238 - zSl 0 ≤ room_1.slots := Nat.le_trans (Nat.sub_le _ _) zSl_room
def zsc (G : zG) (j : Nat) : Int32 := G.2.2.2.2.2.2.2 j
abbrev zsL (G : zG) : Nat := G.2.2.2.2.2.2.1
section ZLAW
variable {G : zG} {R : Room} {QQ : zQQ} {own mn : String} {cc : ByteArray} {nL : Nat} {ret : Option FieldType} {n0 pc : Nat} {L st : List Value} {n : Nat} {mi : zFi} {ml : zFl} {mr : zFr}
theorem e_slen (pc' : Nat) (hd : decode cc pc = .ok (.arraylength, 1)) (hp : pc + 1 = pc') (hG : zad G 3000 = G.2.2.2.2.2.1) (kk : zE G R QQ own mn cc nL ret n0 pc' L (.int (nI (zsL G)) :: st) n mi ml mr) : zE G R QQ own mn cc nL ret n0 pc L (.ref 3000 :: st) n mi ml mr := by
  intro p e s m args below meth c H locs ls hC hR hL hn
  subst hp
  have K := kk p e s m args below meth c H locs ls hC hR hL hn
  obtain ⟨hx, hb, hrt, hml, hown, hts, hlk, hmn, hsz, had, hns, hout⟩ := hC
  have e9 : zTv (zad G) (.ref 3000) = .ref G.2.2.2.2.2.1 := congrArg Value.ref hG
  show W p G.1 e R s m args below meth c H locs _ _ _ (F0 m pc ls (zTv (zad G) (.ref 3000) :: st.map (zTv (zad G))))
  rw [e9]
  exact va_slen hx hb hout.1 hout.2.2.1 hout.2.1 hR.1 hd K
theorem e_sld (pc' : Nat) {j : Nat} {i : Int32} (hd : decode cc pc = .ok (.iaload, 1)) (hp : pc + 1 = pc') (hG : zad G 3000 = G.2.2.2.2.2.1) (hi : i = nI j) (hj : j < zsL G) (hl : zsL G ≤ 3072) (kk : zE G R QQ own mn cc nL ret n0 pc' L (.int (zsc G j) :: st) n mi ml mr) : zE G R QQ own mn cc nL ret n0 pc L (.int i :: .ref 3000 :: st) n mi ml mr := by
  intro p e s m args below meth c H locs ls hC hR hL hn
  subst hp
  subst hi
  have K := kk p e s m args below meth c H locs ls hC hR hL hn
  obtain ⟨hx, hb, hrt, hml, hown, hts, hlk, hmn, hsz, had, hns, hout⟩ := hC
  have e9 : zTv (zad G) (.ref 3000) = .ref G.2.2.2.2.2.1 := congrArg Value.ref hG
  have hin : vp_in (nI j) (zsL G) := vp_in_nI hj (by omega)
  show W p G.1 e R s m args below meth c H locs _ _ _ (F0 m pc ls (.int (nI j) :: zTv (zad G) (.ref 3000) :: st.map (zTv (zad G))))
  rw [e9]
  refine va_sld hx hb hout.1 hout.2.2.1 hout.2.1 hR.1 hin hd ?_
  rw [nI_clamp (by omega)]
  exact K
end ZLAW
theorem e_lret {G : zG} {own mn : String} {pc n : Nat} {L : List Value} {mi : zFi} {ml : zFl} {mr : zFr} (hd : decode cL_law pc = .ok (.ireturn, 1)) (hn9 : n ≤ 238) : zE G room_1 lw_Z own mn cL_law 4 ret 0 pc L [.int 1] n mi ml mr := by
  intro p e s m args below meth c H locs ls hC hR hL hn
  obtain ⟨hx, hb, hrt, hml, hown, hts, hlk, hmn, hsz, had, hns, hout⟩ := hC
  have h1 := zSl_le hn9
  have h2 := zSl_room
  refine va_forget (fun q hq => ?_) ?_
  · have h3 : G.2.2.2.2.1 ≤ q.base := hR.1.2.2 q hq
    omega
  · refine W.widen (k := 600000) (n := 7302249) (by omega) (by omega) ?_
    exact lw_retA hx hb hrt hlk hd
/-- the class and the reference in one state -/
def zJ (mi : zFi) (ml : zFl) (mr : zFr) : Prop := ∃ (D E : Nat) (Λ : zLd) (late : Nat) (tr : Int64) (t : zTx) (m : zMo) (im : Nat → Nat × zMo) (l : zLt) (r : zWr), zRf mr D E ∧ zX mi ml D Λ late tr t m im l r ∧ zY mi ml Λ late tr t m im l r ∧ zWf Λ late t m im l r
section ZJT
variable {mi u : zFi} {ml b : zFl} {D : Nat} {Λ : zLd} {late : Nat} {tr : Int64} {t : zTx} {m : zMo} {im : Nat → Nat × zMo} {l : zLt} {r : zWr}
theorem zX.fr9 (hF : zWf Λ late t m im l r) (hD : 88 ≤ D ∧ D + 6 ≤ 100) (h : zX mi ml D Λ late tr t m im l r) (e : ∀ q, q < 224 → u q = mi q) (eb : b 0 11 = ml 0 11) : zX u b D Λ late tr t m im l r := by
  have hW := hF.1
  obtain ⟨h1, h2, h3, h4, h5, h6, h7, h8, h9⟩ := h
  exact ⟨h1.congr (fun j hj => e _ (by omega)), by rw [e 0 (by decide)]; exact h2, eb.trans h3, h4.c (e 1 (by decide)) (e 2 (by decide)), h5.c hW (fun q g1 g2 => e q (by omega)), h6.c hW (e 66 (by decide)) (fun q g1 g2 => e q (by omega)), h7.c (e 67 (by decide)), h8.c (e 69 (by decide)) (e 70 (by decide)) (e 71 (by decide)), by rw [e 72 (by decide)]; exact h9⟩
theorem zY.fr9 (h : zY mi ml Λ late tr t m im l r) (e : ∀ q, 224 ≤ q → u q = mi q) (eb : b 224 1 = ml 224 1) : zY u b Λ late tr t m im l r := by
  obtain ⟨h1, h2, h3, h4, h5, h6, h7, h8⟩ := h
  refine ⟨?_, by rw [e 230 (by decide)]; exact h2, eb.trans h3, ?_, by rw [e 225 (by decide)]; exact h5, ?_, ?_, ?_⟩
  · unfold zYd; rw [e 224 (by decide), e 230 (by decide), e 231 (by decide), e 232 (by decide)]; exact h1
  · unfold zYt; rw [e 224 (by decide), e 229 (by decide)]; exact h4
  · unfold zYi; rw [e 228 (by decide), e 227 (by decide)]; exact h6
  · unfold zYl; rw [e 224 (by decide), e 233 (by decide)]; exact h7
  · unfold zYw; rw [e 224 (by decide), e 234 (by decide)]; exact h8
theorem zWf.m9 {m' : zMo} (h : zWf Λ late t m im l r) (hm : zMoW Λ m') : zWf Λ late t m' im l r := ⟨h.1, h.2.1, h.2.2.1, hm, h.2.2.2.2⟩
theorem zMoW_lot {v : Int32} (h : zMoW Λ m) : zMoW Λ (m.1, v, m.2.2) := h
theorem zWf.late9 {v : Int32} (h : zWf Λ late t m im l r) : zWf Λ (@ite _ (vR v 0 30) (vR_dec _ _ _) (zK v) late) t m im l r := by
  refine ⟨h.1, ?_, h.2.2⟩
  by_cases q : vR v 0 30
  · rw [iteP q]; exact q.nat.2.2
  · rw [iteN q]; exact h.2.1
theorem zWf.clear9 (h : zWf Λ late t m im l r) : zWf Λ late (0, t.2) m im l r := ⟨h.1, h.2.1, ⟨Nat.zero_le _, fun k hk => absurd hk (Nat.not_lt_zero _)⟩, h.2.2.2⟩
theorem zWf.keep9 {i : Int32} (h : zWf Λ late t m im l r) : zWf Λ late t m (sKeepI m im i) l r := by
  refine ⟨h.1, h.2.1, h.2.2.1, h.2.2.2.1, fun j hj => ?_, h.2.2.2.2.2⟩
  unfold sKeepI
  by_cases q : vR i 0 1
  · rw [iteP q]
    by_cases e : j = zK i
    · rw [e, zu_s]; exact ⟨Nat.le_refl 1, fun _ => h.2.2.2.1⟩
    · rw [zu_n _ _ e]; exact h.2.2.2.2.1 j hj
  · rw [iteN q]; exact h.2.2.2.2.1 j hj
theorem zWf.back9 {i : Int32} (h : zWf Λ late t m im l r) : zWf Λ late t (sBackM m im i) im l r := by
  refine h.m9 ?_
  unfold sBackM
  by_cases q : vR i 0 1
  · rw [iteP q]
    have h1 := q.nat.2
    split
    · rename_i z; exact (h.2.2.2.2.1 (zK i) (by omega)).2 z
    · exact h.2.2.2.1
  · rw [iteN q]; exact h.2.2.2.1
theorem zWf.go9 {n : Int32} (h : zWf Λ late t m im l r) : zWf Λ late t (sGoM Λ m n) im l r := by
  refine h.m9 ?_
  unfold sGoM
  by_cases q : vR n 1 99
  · rw [iteP q]
    split
    · exact h.2.2.2.1
    · refine zYears_W h.1 _ m h.2.2.2.1 ?_
      have e : sGoN m n = min (zK n) (99 - m.1) := rfl
      have := h.2.2.2.1.1
      omega
  · rw [iteN q]; exact h.2.2.2.1
theorem zAnd31 (v : Int32) : ∃ k, k < 32 ∧ v &&& nI 31 = nI k := by
  refine ⟨v.toBitVec.toNat % 2 ^ 32 &&& 31 % 2 ^ 32, ?_, ?_⟩
  · have h1 : v.toBitVec.toNat % 2 ^ 32 &&& 31 % 2 ^ 32 ≤ 31 % 2 ^ 32 := Nat.and_le_right
    omega
  · rw [← nI_and, nI_bits]
theorem zLp {L i : Nat} (hL : L ≤ 3072) (hi : i ≤ 4000) : nI L - nI 6 < nI i ↔ L < i + 6 := by
  have e : (nI L - nI 6).toInt = (L : Int) - 6 := by
    rw [Int32.toInt_sub, nI_toInt (by omega), nI_toInt (by decide)]
    apply Int.bmod_eq_of_le <;> omega
  rw [Int32.lt_iff_toInt_lt, e, nI_toInt (by omega)]
  omega
end ZJT
set_option maxHeartbeats 4000000 in
set_option maxRecDepth 100000 in
theorem l_law_0 (G : zG) {mn : String} {i : Nat} {mi : zFi} {ml : zFl} {mr : zFr} (hG : zad G 3000 = G.2.2.2.2.2.1) (hL : zsL G ≤ 3072) (hi : i + 6 ≤ zsL G) (hJ : zJ mi ml mr) (hK : ∀ mi' ml' mr', zJ mi' ml' mr' → zE G room_1 lw_Z RL mn cL_law 4 ret 0 1148 [.ref 3000, .ref 0, .ref 224, .int (nI i)] [] 238 mi' ml' mr') : zE G room_1 lw_Z RL mn cL_law 4 ret 0 172 [.ref 3000, .ref 0, .ref 224, .int (nI i)] [] 238 mi ml mr := by
  obtain ⟨D, E, Λ, late, tr, t, m, im, l, r, hr, hX, hY, hF⟩ := hJ
  refine e_aload_n 173 dL_law_172 rfl rfl ?_
  refine e_aload_n 174 dL_law_173 rfl rfl ?_
  refine e_iload_n 175 dL_law_174 rfl rfl ?_
  refine e_iconst 176 hic_1 dL_law_175 rfl ?_
  first | refine e_iaddN 177 dL_law_176 rfl ?_ | refine e_iadd 177 dL_law_176 rfl ?_
  refine e_sld 178 dL_law_177 rfl hG rfl (by omega) hL ?_
  refine e_i2l 179 dL_law_178 rfl ?_
  refine e_bipush 181 hbi_32 dL_law_179 rfl ?_
  refine e_lshl 182 dL_law_181 rfl ?_
  refine e_aload_n 183 dL_law_182 rfl rfl ?_
  refine e_iload_n 184 dL_law_183 rfl rfl ?_
  refine e_iconst 185 hic_2 dL_law_184 rfl ?_
  first | refine e_iaddN 186 dL_law_185 rfl ?_ | refine e_iadd 186 dL_law_185 rfl ?_
  refine e_sld 187 dL_law_186 rfl hG rfl (by omega) hL ?_
  refine e_i2l 188 dL_law_187 rfl ?_
  refine e_ldc2_w 191 lc_L_13 dL_law_188 rfl ?_
  refine e_land 192 dL_law_191 rfl ?_
  refine e_lor 193 dL_law_192 rfl ?_
  refine e_aload_n 194 dL_law_193 rfl rfl ?_
  refine e_iload_n 195 dL_law_194 rfl rfl ?_
  refine e_iconst 196 hic_3 dL_law_195 rfl ?_
  first | refine e_iaddN 197 dL_law_196 rfl ?_ | refine e_iadd 197 dL_law_196 rfl ?_
  refine e_sld 198 dL_law_197 rfl hG rfl (by omega) hL ?_
  refine c_Vi 201 (ci := 7) dL_law_198 (k_X7_type G hr hX hF) lm_L_15 zi_yX7_type zs_yX7_type rfl rfl (by decide) rfl rfl rfl (Nat.le_of_ble_eq_true rfl) (Nat.le_of_ble_eq_true rfl) (Nat.le_of_ble_eq_true rfl) (Nat.le_of_ble_eq_true rfl) zSl_rm ?_
  rintro x1 u1 b1 c1 ⟨rfl, hX1, f1, rfl, rfl⟩
  have hX := hX1
  have hY := hY.fr9 f1 rfl
  refine e_aload_n 202 dL_law_201 rfl rfl ?_
  refine e_aload_n 203 dL_law_202 rfl rfl ?_
  refine e_iload_n 204 dL_law_203 rfl rfl ?_
  refine e_iconst 205 hic_1 dL_law_204 rfl ?_
  first | refine e_iaddN 206 dL_law_205 rfl ?_ | refine e_iadd 206 dL_law_205 rfl ?_
  refine e_sld 207 dL_law_206 rfl hG rfl (by omega) hL ?_
  refine e_i2l 208 dL_law_207 rfl ?_
  refine e_bipush 210 hbi_32 dL_law_208 rfl ?_
  refine e_lshl 211 dL_law_210 rfl ?_
  refine e_aload_n 212 dL_law_211 rfl rfl ?_
  refine e_iload_n 213 dL_law_212 rfl rfl ?_
  refine e_iconst 214 hic_2 dL_law_213 rfl ?_
  first | refine e_iaddN 215 dL_law_214 rfl ?_ | refine e_iadd 215 dL_law_214 rfl ?_
  refine e_sld 216 dL_law_215 rfl hG rfl (by omega) hL ?_
  refine e_i2l 217 dL_law_216 rfl ?_
  refine e_ldc2_w 220 lc_L_13 dL_law_217 rfl ?_
  refine e_land 221 dL_law_220 rfl ?_
  refine e_lor 222 dL_law_221 rfl ?_
  refine e_aload_n 223 dL_law_222 rfl rfl ?_
  refine e_iload_n 224 dL_law_223 rfl rfl ?_
  refine e_iconst 225 hic_3 dL_law_224 rfl ?_
  first | refine e_iaddN 226 dL_law_225 rfl ?_ | refine e_iadd 226 dL_law_225 rfl ?_
  refine e_sld 227 dL_law_226 rfl hG rfl (by omega) hL ?_
  refine c_Vi 230 (ci := 8) dL_law_227 (k_X8_type G hr hY hF) lm_L_19 zi_yX8_type zs_yX8_type rfl rfl (by decide) rfl rfl rfl (Nat.le_of_ble_eq_true rfl) (Nat.le_of_ble_eq_true rfl) (Nat.le_of_ble_eq_true rfl) (Nat.le_of_ble_eq_true rfl) zSl_rm ?_
  rintro x2 u2 b2 c2 ⟨rfl, hY2, f2, rfl, rfl⟩
  have hX2 := hX.fr9 (sTypeT_F hF) hr.Dl f2 rfl
  refine e_icmp_eq 1148 233 dL_law_230 (by decide) rfl (fun h230 => ?_) (fun h230 => ?_)
  · exact hK _ _ _ ⟨_, _, _, _, _, _, _, _, _, _, hr, hX2, hY2, sTypeT_F hF⟩
  · exact absurd rfl h230
set_option maxHeartbeats 4000000 in
set_option maxRecDepth 100000 in
theorem l_law_1 (G : zG) {mn : String} {i : Nat} {mi : zFi} {ml : zFl} {mr : zFr} (hG : zad G 3000 = G.2.2.2.2.2.1) (hL : zsL G ≤ 3072) (hi : i + 6 ≤ zsL G) (hJ : zJ mi ml mr) (hK : ∀ mi' ml' mr', zJ mi' ml' mr' → zE G room_1 lw_Z RL mn cL_law 4 ret 0 1148 [.ref 3000, .ref 0, .ref 224, .int (nI i)] [] 238 mi' ml' mr') : zE G room_1 lw_Z RL mn cL_law 4 ret 0 235 [.ref 3000, .ref 0, .ref 224, .int (nI i)] [] 238 mi ml mr := by
  obtain ⟨D, E, Λ, late, tr, t, m, im, l, r, hr, hX, hY, hF⟩ := hJ
  refine e_aload_n 236 dL_law_235 rfl rfl ?_
  refine c_Vi 239 (ci := 7) dL_law_236 (k_X7_clear G hr hX hF) lm_L_20 zi_yX7_clear zs_yX7_clear rfl rfl (by decide) rfl rfl rfl (Nat.le_of_ble_eq_true rfl) (Nat.le_of_ble_eq_true rfl) (Nat.le_of_ble_eq_true rfl) (Nat.le_of_ble_eq_true rfl) zSl_rm ?_
  rintro x1 u1 b1 c1 ⟨rfl, hX1, f1, rfl, rfl⟩
  have hX := hX1
  have hY := hY.fr9 f1 rfl
  refine e_aload_n 240 dL_law_239 rfl rfl ?_
  refine c_Vi 243 (ci := 8) dL_law_240 (k_X8_clear G hr hY hF) lm_L_24 zi_yX8_clear zs_yX8_clear rfl rfl (by decide) rfl rfl rfl (Nat.le_of_ble_eq_true rfl) (Nat.le_of_ble_eq_true rfl) (Nat.le_of_ble_eq_true rfl) (Nat.le_of_ble_eq_true rfl) zSl_rm ?_
  rintro x2 u2 b2 c2 ⟨rfl, hY2, f2, rfl, rfl⟩
  have hX2 := hX.fr9 (hF.clear9) hr.Dl f2 rfl
  refine e_icmp_eq 1148 246 dL_law_243 (by decide) rfl (fun h243 => ?_) (fun h243 => ?_)
  · exact hK _ _ _ ⟨_, _, _, _, _, _, _, _, _, _, hr, hX2, hY2, hF.clear9⟩
  · exact absurd rfl h243
set_option maxHeartbeats 4000000 in
set_option maxRecDepth 100000 in
theorem l_law_2 (G : zG) {mn : String} {i : Nat} {mi : zFi} {ml : zFl} {mr : zFr} (hG : zad G 3000 = G.2.2.2.2.2.1) (hL : zsL G ≤ 3072) (hi : i + 6 ≤ zsL G) (hJ : zJ mi ml mr) (hK : ∀ mi' ml' mr', zJ mi' ml' mr' → zE G room_1 lw_Z RL mn cL_law 4 ret 0 1148 [.ref 3000, .ref 0, .ref 224, .int (nI i)] [] 238 mi' ml' mr') : zE G room_1 lw_Z RL mn cL_law 4 ret 0 248 [.ref 3000, .ref 0, .ref 224, .int (nI i)] [] 238 mi ml mr := by
  obtain ⟨D, E, Λ, late, tr, t, m, im, l, r, hr, hX, hY, hF⟩ := hJ
  refine e_aload_n 249 dL_law_248 rfl rfl ?_
  refine c_Vi 252 (ci := 7) dL_law_249 (k_X7_land G hr hX hF) lm_L_25 zi_yX7_land zs_yX7_land rfl rfl (by decide) rfl rfl rfl (Nat.le_of_ble_eq_true rfl) (Nat.le_of_ble_eq_true rfl) (Nat.le_of_ble_eq_true rfl) (Nat.le_of_ble_eq_true rfl) zSl_rm ?_
  rintro x1 u1 b1 c1 ⟨rfl, ⟨D1, E1, hr1, hX1⟩, f1, rfl⟩
  have hX := hX1
  have hr := hr1
  have hY := hY.fr9 f1 rfl
  refine e_aload_n 253 dL_law_252 rfl rfl ?_
  refine c_Vi 256 (ci := 8) dL_law_253 (k_X8_land G hr hY hF) lm_L_28 zi_yX8_land zs_yX8_land rfl rfl (by decide) rfl rfl rfl (Nat.le_of_ble_eq_true rfl) (Nat.le_of_ble_eq_true rfl) (Nat.le_of_ble_eq_true rfl) (Nat.le_of_ble_eq_true rfl) zSl_rm ?_
  rintro x2 u2 b2 c2 ⟨rfl, hY2, f2, rfl, rfl⟩
  have hX2 := hX.fr9 (sLand_F hF) hr.Dl f2 rfl
  refine e_icmp_eq 1148 259 dL_law_256 (by decide) rfl (fun h256 => ?_) (fun h256 => ?_)
  · exact hK _ _ _ ⟨_, _, _, _, _, _, _, _, _, _, hr, hX2, hY2, sLand_F hF⟩
  · exact absurd rfl h256
set_option maxHeartbeats 4000000 in
set_option maxRecDepth 100000 in
theorem l_law_3 (G : zG) {mn : String} {i : Nat} {mi : zFi} {ml : zFl} {mr : zFr} (hG : zad G 3000 = G.2.2.2.2.2.1) (hL : zsL G ≤ 3072) (hi : i + 6 ≤ zsL G) (hJ : zJ mi ml mr) (hK : ∀ mi' ml' mr', zJ mi' ml' mr' → zE G room_1 lw_Z RL mn cL_law 4 ret 0 1148 [.ref 3000, .ref 0, .ref 224, .int (nI i)] [] 238 mi' ml' mr') : zE G room_1 lw_Z RL mn cL_law 4 ret 0 261 [.ref 3000, .ref 0, .ref 224, .int (nI i)] [] 238 mi ml mr := by
  obtain ⟨D, E, Λ, late, tr, t, m, im, l, r, hr, hX, hY, hF⟩ := hJ
  refine e_aload_n 262 dL_law_261 rfl rfl ?_
  refine e_aload_n 263 dL_law_262 rfl rfl ?_
  refine e_iload_n 264 dL_law_263 rfl rfl ?_
  refine e_iconst 265 hic_1 dL_law_264 rfl ?_
  first | refine e_iaddN 266 dL_law_265 rfl ?_ | refine e_iadd 266 dL_law_265 rfl ?_
  refine e_sld 267 dL_law_266 rfl hG rfl (by omega) hL ?_
  refine c_Vqi 270 (ci := 7) dL_law_267 (k_X7_law G hr hX hF) lm_L_29 zi_yX7_law zs_yX7_law rfl rfl (by decide) rfl rfl rfl (Nat.le_of_ble_eq_true rfl) (Nat.le_of_ble_eq_true rfl) (Nat.le_of_ble_eq_true rfl) (Nat.le_of_ble_eq_true rfl) zSl_rm ?_
  refine e_aload_n 271 dL_law_270 rfl rfl ?_
  refine e_aload_n 272 dL_law_271 rfl rfl ?_
  refine e_iload_n 273 dL_law_272 rfl rfl ?_
  refine e_iconst 274 hic_1 dL_law_273 rfl ?_
  first | refine e_iaddN 275 dL_law_274 rfl ?_ | refine e_iadd 275 dL_law_274 rfl ?_
  refine e_sld 276 dL_law_275 rfl hG rfl (by omega) hL ?_
  refine c_Vi 279 (ci := 8) dL_law_276 (k_X8_law G hr hY hF) lm_L_33 zi_yX8_law zs_yX8_law rfl rfl (by decide) rfl rfl rfl (Nat.le_of_ble_eq_true rfl) (Nat.le_of_ble_eq_true rfl) (Nat.le_of_ble_eq_true rfl) (Nat.le_of_ble_eq_true rfl) zSl_rm ?_
  rintro x2 u2 b2 c2 ⟨rfl, hY2, f2, rfl, rfl⟩
  have hX2 := hX.fr9 (hF) hr.Dl f2 rfl
  refine e_icmp_eq 1148 282 dL_law_279 (by decide) rfl (fun h279 => ?_) (fun h279 => ?_)
  · exact hK _ _ _ ⟨_, _, _, _, _, _, _, _, _, _, hr, hX2, hY2, hF⟩
  · exact absurd rfl h279
set_option maxHeartbeats 4000000 in
set_option maxRecDepth 100000 in
theorem l_law_4 (G : zG) {mn : String} {i : Nat} {mi : zFi} {ml : zFl} {mr : zFr} (hG : zad G 3000 = G.2.2.2.2.2.1) (hL : zsL G ≤ 3072) (hi : i + 6 ≤ zsL G) (hJ : zJ mi ml mr) (hK : ∀ mi' ml' mr', zJ mi' ml' mr' → zE G room_1 lw_Z RL mn cL_law 4 ret 0 1148 [.ref 3000, .ref 0, .ref 224, .int (nI i)] [] 238 mi' ml' mr') : zE G room_1 lw_Z RL mn cL_law 4 ret 0 284 [.ref 3000, .ref 0, .ref 224, .int (nI i)] [] 238 mi ml mr := by
  obtain ⟨D, E, Λ, late, tr, t, m, im, l, r, hr, hX, hY, hF⟩ := hJ
  refine e_aload_n 285 dL_law_284 rfl rfl ?_
  refine e_aload_n 286 dL_law_285 rfl rfl ?_
  refine e_iload_n 287 dL_law_286 rfl rfl ?_
  refine e_iconst 288 hic_1 dL_law_287 rfl ?_
  first | refine e_iaddN 289 dL_law_288 rfl ?_ | refine e_iadd 289 dL_law_288 rfl ?_
  refine e_sld 290 dL_law_289 rfl hG rfl (by omega) hL ?_
  refine c_Vi 293 (ci := 7) dL_law_290 (k_X7_late G hr hX hF) lm_L_34 zi_yX7_late zs_yX7_late rfl rfl (by decide) rfl rfl rfl (Nat.le_of_ble_eq_true rfl) (Nat.le_of_ble_eq_true rfl) (Nat.le_of_ble_eq_true rfl) (Nat.le_of_ble_eq_true rfl) zSl_rm ?_
  rintro x1 u1 b1 c1 ⟨rfl, hX1, f1, rfl, rfl⟩
  have hX := hX1
  have hY := hY.fr9 f1 rfl
  refine e_aload_n 294 dL_law_293 rfl rfl ?_
  refine e_aload_n 295 dL_law_294 rfl rfl ?_
  refine e_iload_n 296 dL_law_295 rfl rfl ?_
  refine e_iconst 297 hic_1 dL_law_296 rfl ?_
  first | refine e_iaddN 298 dL_law_297 rfl ?_ | refine e_iadd 298 dL_law_297 rfl ?_
  refine e_sld 299 dL_law_298 rfl hG rfl (by omega) hL ?_
  refine c_Vi 302 (ci := 8) dL_law_299 (k_X8_late G hr hY hF) lm_L_37 zi_yX8_late zs_yX8_late rfl rfl (by decide) rfl rfl rfl (Nat.le_of_ble_eq_true rfl) (Nat.le_of_ble_eq_true rfl) (Nat.le_of_ble_eq_true rfl) (Nat.le_of_ble_eq_true rfl) zSl_rm ?_
  rintro x2 u2 b2 c2 ⟨rfl, hY2, f2, rfl, rfl⟩
  have hX2 := hX.fr9 (hF.late9) hr.Dl f2 rfl
  refine e_icmp_eq 1148 305 dL_law_302 (by decide) rfl (fun h302 => ?_) (fun h302 => ?_)
  · exact hK _ _ _ ⟨_, _, _, _, _, _, _, _, _, _, hr, hX2, hY2, hF.late9⟩
  · exact absurd rfl h302
set_option maxHeartbeats 4000000 in
set_option maxRecDepth 100000 in
theorem l_law_5 (G : zG) {mn : String} {i : Nat} {mi : zFi} {ml : zFl} {mr : zFr} (hG : zad G 3000 = G.2.2.2.2.2.1) (hL : zsL G ≤ 3072) (hi : i + 6 ≤ zsL G) (hJ : zJ mi ml mr) (hK : ∀ mi' ml' mr', zJ mi' ml' mr' → zE G room_1 lw_Z RL mn cL_law 4 ret 0 1148 [.ref 3000, .ref 0, .ref 224, .int (nI i)] [] 238 mi' ml' mr') : zE G room_1 lw_Z RL mn cL_law 4 ret 0 307 [.ref 3000, .ref 0, .ref 224, .int (nI i)] [] 238 mi ml mr := by
  obtain ⟨D, E, Λ, late, tr, t, m, im, l, r, hr, hX, hY, hF⟩ := hJ
  refine e_aload_n 308 dL_law_307 rfl rfl ?_
  refine e_aload_n 309 dL_law_308 rfl rfl ?_
  refine e_iload_n 310 dL_law_309 rfl rfl ?_
  refine e_iconst 311 hic_1 dL_law_310 rfl ?_
  first | refine e_iaddN 312 dL_law_311 rfl ?_ | refine e_iadd 312 dL_law_311 rfl ?_
  refine e_sld 313 dL_law_312 rfl hG rfl (by omega) hL ?_
  refine e_aload_n 314 dL_law_313 rfl rfl ?_
  refine e_iload_n 315 dL_law_314 rfl rfl ?_
  refine e_iconst 316 hic_2 dL_law_315 rfl ?_
  first | refine e_iaddN 317 dL_law_316 rfl ?_ | refine e_iadd 317 dL_law_316 rfl ?_
  refine e_sld 318 dL_law_317 rfl hG rfl (by omega) hL ?_
  refine c_Vqi 321 (ci := 7) dL_law_318 (k_X7_near G hr hX hF) lm_L_38 zi_yX7_near zs_yX7_near rfl rfl (by decide) rfl rfl rfl (Nat.le_of_ble_eq_true rfl) (Nat.le_of_ble_eq_true rfl) (Nat.le_of_ble_eq_true rfl) (Nat.le_of_ble_eq_true rfl) zSl_rm ?_
  refine e_aload_n 322 dL_law_321 rfl rfl ?_
  refine e_aload_n 323 dL_law_322 rfl rfl ?_
  refine e_iload_n 324 dL_law_323 rfl rfl ?_
  refine e_iconst 325 hic_1 dL_law_324 rfl ?_
  first | refine e_iaddN 326 dL_law_325 rfl ?_ | refine e_iadd 326 dL_law_325 rfl ?_
  refine e_sld 327 dL_law_326 rfl hG rfl (by omega) hL ?_
  refine e_aload_n 328 dL_law_327 rfl rfl ?_
  refine e_iload_n 329 dL_law_328 rfl rfl ?_
  refine e_iconst 330 hic_2 dL_law_329 rfl ?_
  first | refine e_iaddN 331 dL_law_330 rfl ?_ | refine e_iadd 331 dL_law_330 rfl ?_
  refine e_sld 332 dL_law_331 rfl hG rfl (by omega) hL ?_
  refine c_Vi 335 (ci := 8) dL_law_332 (k_X8_near G hr hY hF) lm_L_42 zi_yX8_near zs_yX8_near rfl rfl (by decide) rfl rfl rfl (Nat.le_of_ble_eq_true rfl) (Nat.le_of_ble_eq_true rfl) (Nat.le_of_ble_eq_true rfl) (Nat.le_of_ble_eq_true rfl) zSl_rm ?_
  rintro x2 u2 b2 c2 ⟨rfl, hY2, f2, rfl, rfl⟩
  have hX2 := hX.fr9 (hF) hr.Dl f2 rfl
  refine e_icmp_eq 1148 338 dL_law_335 (by decide) rfl (fun h335 => ?_) (fun h335 => ?_)
  · exact hK _ _ _ ⟨_, _, _, _, _, _, _, _, _, _, hr, hX2, hY2, hF⟩
  · exact absurd rfl h335
set_option maxHeartbeats 4000000 in
set_option maxRecDepth 100000 in
theorem l_law_6 (G : zG) {mn : String} {i : Nat} {mi : zFi} {ml : zFl} {mr : zFr} (hG : zad G 3000 = G.2.2.2.2.2.1) (hL : zsL G ≤ 3072) (hi : i + 6 ≤ zsL G) (hJ : zJ mi ml mr) (hK : ∀ mi' ml' mr', zJ mi' ml' mr' → zE G room_1 lw_Z RL mn cL_law 4 ret 0 1148 [.ref 3000, .ref 0, .ref 224, .int (nI i)] [] 238 mi' ml' mr') : zE G room_1 lw_Z RL mn cL_law 4 ret 0 340 [.ref 3000, .ref 0, .ref 224, .int (nI i)] [] 238 mi ml mr := by
  obtain ⟨D, E, Λ, late, tr, t, m, im, l, r, hr, hX, hY, hF⟩ := hJ
  refine e_aload_n 341 dL_law_340 rfl rfl ?_
  refine e_aload_n 342 dL_law_341 rfl rfl ?_
  refine e_iload_n 343 dL_law_342 rfl rfl ?_
  refine e_iconst 344 hic_1 dL_law_343 rfl ?_
  first | refine e_iaddN 345 dL_law_344 rfl ?_ | refine e_iadd 345 dL_law_344 rfl ?_
  refine e_sld 346 dL_law_345 rfl hG rfl (by omega) hL ?_
  refine e_aload_n 347 dL_law_346 rfl rfl ?_
  refine e_iload_n 348 dL_law_347 rfl rfl ?_
  refine e_iconst 349 hic_2 dL_law_348 rfl ?_
  first | refine e_iaddN 350 dL_law_349 rfl ?_ | refine e_iadd 350 dL_law_349 rfl ?_
  refine e_sld 351 dL_law_350 rfl hG rfl (by omega) hL ?_
  refine c_Vqi 354 (ci := 7) dL_law_351 (k_X7_word G hr hX hF) lm_L_43 zi_yX7_word zs_yX7_word rfl rfl (by decide) rfl rfl rfl (Nat.le_of_ble_eq_true rfl) (Nat.le_of_ble_eq_true rfl) (Nat.le_of_ble_eq_true rfl) (Nat.le_of_ble_eq_true rfl) zSl_rm ?_
  refine e_aload_n 355 dL_law_354 rfl rfl ?_
  refine e_aload_n 356 dL_law_355 rfl rfl ?_
  refine e_iload_n 357 dL_law_356 rfl rfl ?_
  refine e_iconst 358 hic_1 dL_law_357 rfl ?_
  first | refine e_iaddN 359 dL_law_358 rfl ?_ | refine e_iadd 359 dL_law_358 rfl ?_
  refine e_sld 360 dL_law_359 rfl hG rfl (by omega) hL ?_
  refine e_aload_n 361 dL_law_360 rfl rfl ?_
  refine e_iload_n 362 dL_law_361 rfl rfl ?_
  refine e_iconst 363 hic_2 dL_law_362 rfl ?_
  first | refine e_iaddN 364 dL_law_363 rfl ?_ | refine e_iadd 364 dL_law_363 rfl ?_
  refine e_sld 365 dL_law_364 rfl hG rfl (by omega) hL ?_
  refine c_Vi 368 (ci := 8) dL_law_365 (k_X8_word G hr hY hF) lm_L_46 zi_yX8_word zs_yX8_word rfl rfl (by decide) rfl rfl rfl (Nat.le_of_ble_eq_true rfl) (Nat.le_of_ble_eq_true rfl) (Nat.le_of_ble_eq_true rfl) (Nat.le_of_ble_eq_true rfl) zSl_rm ?_
  rintro x2 u2 b2 c2 ⟨rfl, hY2, f2, rfl, rfl⟩
  have hX2 := hX.fr9 (hF) hr.Dl f2 rfl
  refine e_icmp_eq 1148 371 dL_law_368 (by decide) rfl (fun h368 => ?_) (fun h368 => ?_)
  · exact hK _ _ _ ⟨_, _, _, _, _, _, _, _, _, _, hr, hX2, hY2, hF⟩
  · exact absurd rfl h368
set_option maxHeartbeats 4000000 in
set_option maxRecDepth 100000 in
theorem l_law_7 (G : zG) {mn : String} {i : Nat} {mi : zFi} {ml : zFl} {mr : zFr} (hG : zad G 3000 = G.2.2.2.2.2.1) (hL : zsL G ≤ 3072) (hi : i + 6 ≤ zsL G) (hJ : zJ mi ml mr) (hK : ∀ mi' ml' mr', zJ mi' ml' mr' → zE G room_1 lw_Z RL mn cL_law 4 ret 0 1148 [.ref 3000, .ref 0, .ref 224, .int (nI i)] [] 238 mi' ml' mr') : zE G room_1 lw_Z RL mn cL_law 4 ret 0 373 [.ref 3000, .ref 0, .ref 224, .int (nI i)] [] 238 mi ml mr := by
  obtain ⟨D, E, Λ, late, tr, t, m, im, l, r, hr, hX, hY, hF⟩ := hJ
  refine e_aload_n 374 dL_law_373 rfl rfl ?_
  refine e_aload_n 375 dL_law_374 rfl rfl ?_
  refine e_iload_n 376 dL_law_375 rfl rfl ?_
  refine e_iconst 377 hic_1 dL_law_376 rfl ?_
  first | refine e_iaddN 378 dL_law_377 rfl ?_ | refine e_iadd 378 dL_law_377 rfl ?_
  refine e_sld 379 dL_law_378 rfl hG rfl (by omega) hL ?_
  refine c_Vi 382 (ci := 7) dL_law_379 (k_X7_go G hr hX hF) lm_L_47 zi_yX7_go zs_yX7_go rfl rfl (by decide) rfl rfl rfl (Nat.le_of_ble_eq_true rfl) (Nat.le_of_ble_eq_true rfl) (Nat.le_of_ble_eq_true rfl) (Nat.le_of_ble_eq_true rfl) zSl_rm ?_
  rintro x1 u1 b1 c1 ⟨rfl, hX1, f1, rfl, rfl⟩
  have hX := hX1
  have hY := hY.fr9 f1 rfl
  refine e_aload_n 383 dL_law_382 rfl rfl ?_
  refine e_aload_n 384 dL_law_383 rfl rfl ?_
  refine e_iload_n 385 dL_law_384 rfl rfl ?_
  refine e_iconst 386 hic_1 dL_law_385 rfl ?_
  first | refine e_iaddN 387 dL_law_386 rfl ?_ | refine e_iadd 387 dL_law_386 rfl ?_
  refine e_sld 388 dL_law_387 rfl hG rfl (by omega) hL ?_
  refine c_Vi 391 (ci := 8) dL_law_388 (k_X8_go G hr hY hF) lm_L_50 zi_yX8_go zs_yX8_go rfl rfl (by decide) rfl rfl rfl (Nat.le_of_ble_eq_true rfl) (Nat.le_of_ble_eq_true rfl) (Nat.le_of_ble_eq_true rfl) (Nat.le_of_ble_eq_true rfl) zSl_rm ?_
  rintro x2 u2 b2 c2 ⟨rfl, hY2, f2, rfl, rfl⟩
  have hX2 := hX.fr9 (hF.go9) hr.Dl f2 rfl
  refine e_icmp_eq 1148 394 dL_law_391 (by decide) rfl (fun h391 => ?_) (fun h391 => ?_)
  · exact hK _ _ _ ⟨_, _, _, _, _, _, _, _, _, _, hr, hX2, hY2, hF.go9⟩
  · exact absurd rfl h391
set_option maxHeartbeats 4000000 in
set_option maxRecDepth 100000 in
theorem l_law_8 (G : zG) {mn : String} {i : Nat} {mi : zFi} {ml : zFl} {mr : zFr} (hG : zad G 3000 = G.2.2.2.2.2.1) (hL : zsL G ≤ 3072) (hi : i + 6 ≤ zsL G) (hJ : zJ mi ml mr) (hK : ∀ mi' ml' mr', zJ mi' ml' mr' → zE G room_1 lw_Z RL mn cL_law 4 ret 0 1148 [.ref 3000, .ref 0, .ref 224, .int (nI i)] [] 238 mi' ml' mr') : zE G room_1 lw_Z RL mn cL_law 4 ret 0 396 [.ref 3000, .ref 0, .ref 224, .int (nI i)] [] 238 mi ml mr := by
  obtain ⟨D, E, Λ, late, tr, t, m, im, l, r, hr, hX, hY, hF⟩ := hJ
  refine e_aload_n 397 dL_law_396 rfl rfl ?_
  refine c_Vi 400 (ci := 7) dL_law_397 (k_X7_anew G hr hX hF) lm_L_51 zi_yX7_anew zs_yX7_anew rfl rfl (by decide) rfl rfl rfl (Nat.le_of_ble_eq_true rfl) (Nat.le_of_ble_eq_true rfl) (Nat.le_of_ble_eq_true rfl) (Nat.le_of_ble_eq_true rfl) zSl_rm ?_
  rintro x1 u1 b1 c1 ⟨rfl, hX1, f1, rfl, rfl⟩
  have hX := hX1
  have hY := hY.fr9 f1 rfl
  refine e_aload_n 401 dL_law_400 rfl rfl ?_
  refine c_Vi 404 (ci := 8) dL_law_401 (k_X8_anew G hr hY hF) lm_L_54 zi_yX8_anew zs_yX8_anew rfl rfl (by decide) rfl rfl rfl (Nat.le_of_ble_eq_true rfl) (Nat.le_of_ble_eq_true rfl) (Nat.le_of_ble_eq_true rfl) (Nat.le_of_ble_eq_true rfl) zSl_rm ?_
  rintro x2 u2 b2 c2 ⟨rfl, hY2, f2, rfl, rfl⟩
  have hX2 := hX.fr9 (hF.m9 (zAnew_W hF.1)) hr.Dl f2 rfl
  refine e_icmp_eq 1148 407 dL_law_404 (by decide) rfl (fun h404 => ?_) (fun h404 => ?_)
  · exact hK _ _ _ ⟨_, _, _, _, _, _, _, _, _, _, hr, hX2, hY2, hF.m9 (zAnew_W hF.1)⟩
  · exact absurd rfl h404
set_option maxHeartbeats 4000000 in
set_option maxRecDepth 100000 in
theorem l_law_9 (G : zG) {mn : String} {i : Nat} {mi : zFi} {ml : zFl} {mr : zFr} (hG : zad G 3000 = G.2.2.2.2.2.1) (hL : zsL G ≤ 3072) (hi : i + 6 ≤ zsL G) (hJ : zJ mi ml mr) (hK : ∀ mi' ml' mr', zJ mi' ml' mr' → zE G room_1 lw_Z RL mn cL_law 4 ret 0 1148 [.ref 3000, .ref 0, .ref 224, .int (nI i)] [] 238 mi' ml' mr') : zE G room_1 lw_Z RL mn cL_law 4 ret 0 409 [.ref 3000, .ref 0, .ref 224, .int (nI i)] [] 238 mi ml mr := by
  obtain ⟨D, E, Λ, late, tr, t, m, im, l, r, hr, hX, hY, hF⟩ := hJ
  refine e_aload_n 410 dL_law_409 rfl rfl ?_
  refine e_aload_n 411 dL_law_410 rfl rfl ?_
  refine e_iload_n 412 dL_law_411 rfl rfl ?_
  refine e_iconst 413 hic_1 dL_law_412 rfl ?_
  first | refine e_iaddN 414 dL_law_413 rfl ?_ | refine e_iadd 414 dL_law_413 rfl ?_
  refine e_sld 415 dL_law_414 rfl hG rfl (by omega) hL ?_
  refine e_aload_n 416 dL_law_415 rfl rfl ?_
  refine e_iload_n 417 dL_law_416 rfl rfl ?_
  refine e_iconst 418 hic_2 dL_law_417 rfl ?_
  first | refine e_iaddN 419 dL_law_418 rfl ?_ | refine e_iadd 419 dL_law_418 rfl ?_
  refine e_sld 420 dL_law_419 rfl hG rfl (by omega) hL ?_
  refine e_aload_n 421 dL_law_420 rfl rfl ?_
  refine e_iload_n 422 dL_law_421 rfl rfl ?_
  refine e_iconst 423 hic_3 dL_law_422 rfl ?_
  first | refine e_iaddN 424 dL_law_423 rfl ?_ | refine e_iadd 424 dL_law_423 rfl ?_
  refine e_sld 425 dL_law_424 rfl hG rfl (by omega) hL ?_
  refine c_Vqi 428 (ci := 7) dL_law_425 (k_X7_share G hr hX hF) lm_L_55 zi_yX7_share zs_yX7_share rfl rfl (by decide) rfl rfl rfl (Nat.le_of_ble_eq_true rfl) (Nat.le_of_ble_eq_true rfl) (Nat.le_of_ble_eq_true rfl) (Nat.le_of_ble_eq_true rfl) zSl_rm ?_
  refine e_aload_n 429 dL_law_428 rfl rfl ?_
  refine e_aload_n 430 dL_law_429 rfl rfl ?_
  refine e_iload_n 431 dL_law_430 rfl rfl ?_
  refine e_iconst 432 hic_1 dL_law_431 rfl ?_
  first | refine e_iaddN 433 dL_law_432 rfl ?_ | refine e_iadd 433 dL_law_432 rfl ?_
  refine e_sld 434 dL_law_433 rfl hG rfl (by omega) hL ?_
  refine e_aload_n 435 dL_law_434 rfl rfl ?_
  refine e_iload_n 436 dL_law_435 rfl rfl ?_
  refine e_iconst 437 hic_2 dL_law_436 rfl ?_
  first | refine e_iaddN 438 dL_law_437 rfl ?_ | refine e_iadd 438 dL_law_437 rfl ?_
  refine e_sld 439 dL_law_438 rfl hG rfl (by omega) hL ?_
  refine e_aload_n 440 dL_law_439 rfl rfl ?_
  refine e_iload_n 441 dL_law_440 rfl rfl ?_
  refine e_iconst 442 hic_3 dL_law_441 rfl ?_
  first | refine e_iaddN 443 dL_law_442 rfl ?_ | refine e_iadd 443 dL_law_442 rfl ?_
  refine e_sld 444 dL_law_443 rfl hG rfl (by omega) hL ?_
  refine c_Vi 447 (ci := 8) dL_law_444 (k_X8_share G hr hY hF) lm_L_59 zi_yX8_share zs_yX8_share rfl rfl (by decide) rfl rfl rfl (Nat.le_of_ble_eq_true rfl) (Nat.le_of_ble_eq_true rfl) (Nat.le_of_ble_eq_true rfl) (Nat.le_of_ble_eq_true rfl) zSl_rm ?_
  rintro x2 u2 b2 c2 ⟨rfl, hY2, f2, rfl, rfl⟩
  have hX2 := hX.fr9 (hF) hr.Dl f2 rfl
  refine e_icmp_eq 1148 450 dL_law_447 (by decide) rfl (fun h447 => ?_) (fun h447 => ?_)
  · exact hK _ _ _ ⟨_, _, _, _, _, _, _, _, _, _, hr, hX2, hY2, hF⟩
  · exact absurd rfl h447
set_option maxHeartbeats 4000000 in
set_option maxRecDepth 100000 in
theorem l_law_10 (G : zG) {mn : String} {i : Nat} {mi : zFi} {ml : zFl} {mr : zFr} (hG : zad G 3000 = G.2.2.2.2.2.1) (hL : zsL G ≤ 3072) (hi : i + 6 ≤ zsL G) (hJ : zJ mi ml mr) (hK : ∀ mi' ml' mr', zJ mi' ml' mr' → zE G room_1 lw_Z RL mn cL_law 4 ret 0 1148 [.ref 3000, .ref 0, .ref 224, .int (nI i)] [] 238 mi' ml' mr') : zE G room_1 lw_Z RL mn cL_law 4 ret 0 452 [.ref 3000, .ref 0, .ref 224, .int (nI i)] [] 238 mi ml mr := by
  obtain ⟨D, E, Λ, late, tr, t, m, im, l, r, hr, hX, hY, hF⟩ := hJ
  refine e_aload_n 453 dL_law_452 rfl rfl ?_
  refine e_aload_n 454 dL_law_453 rfl rfl ?_
  refine e_iload_n 455 dL_law_454 rfl rfl ?_
  refine e_iconst 456 hic_1 dL_law_455 rfl ?_
  first | refine e_iaddN 457 dL_law_456 rfl ?_ | refine e_iadd 457 dL_law_456 rfl ?_
  refine e_sld 458 dL_law_457 rfl hG rfl (by omega) hL ?_
  refine e_aload_n 459 dL_law_458 rfl rfl ?_
  refine e_iload_n 460 dL_law_459 rfl rfl ?_
  refine e_iconst 461 hic_2 dL_law_460 rfl ?_
  first | refine e_iaddN 462 dL_law_461 rfl ?_ | refine e_iadd 462 dL_law_461 rfl ?_
  refine e_sld 463 dL_law_462 rfl hG rfl (by omega) hL ?_
  refine e_aload_n 464 dL_law_463 rfl rfl ?_
  refine e_iload_n 465 dL_law_464 rfl rfl ?_
  refine e_iconst 466 hic_3 dL_law_465 rfl ?_
  first | refine e_iaddN 467 dL_law_466 rfl ?_ | refine e_iadd 467 dL_law_466 rfl ?_
  refine e_sld 468 dL_law_467 rfl hG rfl (by omega) hL ?_
  refine c_Vqi 471 (ci := 7) dL_law_468 (k_X7_has G hr hX hF) lm_L_60 zi_yX7_has zs_yX7_has rfl rfl (by decide) rfl rfl rfl (Nat.le_of_ble_eq_true rfl) (Nat.le_of_ble_eq_true rfl) (Nat.le_of_ble_eq_true rfl) (Nat.le_of_ble_eq_true rfl) zSl_rm ?_
  refine e_aload_n 472 dL_law_471 rfl rfl ?_
  refine e_aload_n 473 dL_law_472 rfl rfl ?_
  refine e_iload_n 474 dL_law_473 rfl rfl ?_
  refine e_iconst 475 hic_1 dL_law_474 rfl ?_
  first | refine e_iaddN 476 dL_law_475 rfl ?_ | refine e_iadd 476 dL_law_475 rfl ?_
  refine e_sld 477 dL_law_476 rfl hG rfl (by omega) hL ?_
  refine e_aload_n 478 dL_law_477 rfl rfl ?_
  refine e_iload_n 479 dL_law_478 rfl rfl ?_
  refine e_iconst 480 hic_2 dL_law_479 rfl ?_
  first | refine e_iaddN 481 dL_law_480 rfl ?_ | refine e_iadd 481 dL_law_480 rfl ?_
  refine e_sld 482 dL_law_481 rfl hG rfl (by omega) hL ?_
  refine e_aload_n 483 dL_law_482 rfl rfl ?_
  refine e_iload_n 484 dL_law_483 rfl rfl ?_
  refine e_iconst 485 hic_3 dL_law_484 rfl ?_
  first | refine e_iaddN 486 dL_law_485 rfl ?_ | refine e_iadd 486 dL_law_485 rfl ?_
  refine e_sld 487 dL_law_486 rfl hG rfl (by omega) hL ?_
  refine c_Vi 490 (ci := 8) dL_law_487 (k_X8_has G hr hY hF) lm_L_63 zi_yX8_has zs_yX8_has rfl rfl (by decide) rfl rfl rfl (Nat.le_of_ble_eq_true rfl) (Nat.le_of_ble_eq_true rfl) (Nat.le_of_ble_eq_true rfl) (Nat.le_of_ble_eq_true rfl) zSl_rm ?_
  rintro x2 u2 b2 c2 ⟨rfl, hY2, f2, rfl, rfl⟩
  have hX2 := hX.fr9 (hF) hr.Dl f2 rfl
  refine e_icmp_eq 1148 493 dL_law_490 (by decide) rfl (fun h490 => ?_) (fun h490 => ?_)
  · exact hK _ _ _ ⟨_, _, _, _, _, _, _, _, _, _, hr, hX2, hY2, hF⟩
  · exact absurd rfl h490
set_option maxHeartbeats 4000000 in
set_option maxRecDepth 100000 in
theorem l_law_11 (G : zG) {mn : String} {i : Nat} {mi : zFi} {ml : zFl} {mr : zFr} (hG : zad G 3000 = G.2.2.2.2.2.1) (hL : zsL G ≤ 3072) (hi : i + 6 ≤ zsL G) (hJ : zJ mi ml mr) (hK : ∀ mi' ml' mr', zJ mi' ml' mr' → zE G room_1 lw_Z RL mn cL_law 4 ret 0 1148 [.ref 3000, .ref 0, .ref 224, .int (nI i)] [] 238 mi' ml' mr') : zE G room_1 lw_Z RL mn cL_law 4 ret 0 495 [.ref 3000, .ref 0, .ref 224, .int (nI i)] [] 238 mi ml mr := by
  obtain ⟨D, E, Λ, late, tr, t, m, im, l, r, hr, hX, hY, hF⟩ := hJ
  refine e_aload_n 496 dL_law_495 rfl rfl ?_
  refine e_aload_n 497 dL_law_496 rfl rfl ?_
  refine e_iload_n 498 dL_law_497 rfl rfl ?_
  refine e_iconst 499 hic_1 dL_law_498 rfl ?_
  first | refine e_iaddN 500 dL_law_499 rfl ?_ | refine e_iadd 500 dL_law_499 rfl ?_
  refine e_sld 501 dL_law_500 rfl hG rfl (by omega) hL ?_
  refine e_aload_n 502 dL_law_501 rfl rfl ?_
  refine e_iload_n 503 dL_law_502 rfl rfl ?_
  refine e_iconst 504 hic_2 dL_law_503 rfl ?_
  first | refine e_iaddN 505 dL_law_504 rfl ?_ | refine e_iadd 505 dL_law_504 rfl ?_
  refine e_sld 506 dL_law_505 rfl hG rfl (by omega) hL ?_
  refine e_aload_n 507 dL_law_506 rfl rfl ?_
  refine e_iload_n 508 dL_law_507 rfl rfl ?_
  refine e_iconst 509 hic_3 dL_law_508 rfl ?_
  first | refine e_iaddN 510 dL_law_509 rfl ?_ | refine e_iadd 510 dL_law_509 rfl ?_
  refine e_sld 511 dL_law_510 rfl hG rfl (by omega) hL ?_
  refine c_Vi 514 (ci := 7) dL_law_511 (k_X7_song G hr hX hF) lm_L_64 zi_yX7_song zs_yX7_song rfl rfl (by decide) rfl rfl rfl (Nat.le_of_ble_eq_true rfl) (Nat.le_of_ble_eq_true rfl) (Nat.le_of_ble_eq_true rfl) (Nat.le_of_ble_eq_true rfl) zSl_rm ?_
  rintro x1 u1 b1 c1 ⟨rfl, hX1, f1, rfl, rfl⟩
  have hX := hX1
  have hY := hY.fr9 f1 rfl
  refine e_aload_n 515 dL_law_514 rfl rfl ?_
  refine e_aload_n 516 dL_law_515 rfl rfl ?_
  refine e_iload_n 517 dL_law_516 rfl rfl ?_
  refine e_iconst 518 hic_1 dL_law_517 rfl ?_
  first | refine e_iaddN 519 dL_law_518 rfl ?_ | refine e_iadd 519 dL_law_518 rfl ?_
  refine e_sld 520 dL_law_519 rfl hG rfl (by omega) hL ?_
  refine e_aload_n 521 dL_law_520 rfl rfl ?_
  refine e_iload_n 522 dL_law_521 rfl rfl ?_
  refine e_iconst 523 hic_2 dL_law_522 rfl ?_
  first | refine e_iaddN 524 dL_law_523 rfl ?_ | refine e_iadd 524 dL_law_523 rfl ?_
  refine e_sld 525 dL_law_524 rfl hG rfl (by omega) hL ?_
  refine e_aload_n 526 dL_law_525 rfl rfl ?_
  refine e_iload_n 527 dL_law_526 rfl rfl ?_
  refine e_iconst 528 hic_3 dL_law_527 rfl ?_
  first | refine e_iaddN 529 dL_law_528 rfl ?_ | refine e_iadd 529 dL_law_528 rfl ?_
  refine e_sld 530 dL_law_529 rfl hG rfl (by omega) hL ?_
  refine c_Vi 533 (ci := 8) dL_law_530 (k_X8_song G hr hY hF) lm_L_67 zi_yX8_song zs_yX8_song rfl rfl (by decide) rfl rfl rfl (Nat.le_of_ble_eq_true rfl) (Nat.le_of_ble_eq_true rfl) (Nat.le_of_ble_eq_true rfl) (Nat.le_of_ble_eq_true rfl) zSl_rm ?_
  rintro x2 u2 b2 c2 ⟨rfl, hY2, f2, rfl, rfl⟩
  have hX2 := hX.fr9 (hF.m9 (sSongM_W hF.1 hF.2.2.2.1)) hr.Dl f2 rfl
  refine e_icmp_eq 1148 536 dL_law_533 (by decide) rfl (fun h533 => ?_) (fun h533 => ?_)
  · exact hK _ _ _ ⟨_, _, _, _, _, _, _, _, _, _, hr, hX2, hY2, hF.m9 (sSongM_W hF.1 hF.2.2.2.1)⟩
  · exact absurd rfl h533
set_option maxHeartbeats 4000000 in
set_option maxRecDepth 100000 in
theorem l_law_12 (G : zG) {mn : String} {i : Nat} {mi : zFi} {ml : zFl} {mr : zFr} (hG : zad G 3000 = G.2.2.2.2.2.1) (hL : zsL G ≤ 3072) (hi : i + 6 ≤ zsL G) (hJ : zJ mi ml mr) (hK : ∀ mi' ml' mr', zJ mi' ml' mr' → zE G room_1 lw_Z RL mn cL_law 4 ret 0 1148 [.ref 3000, .ref 0, .ref 224, .int (nI i)] [] 238 mi' ml' mr') : zE G room_1 lw_Z RL mn cL_law 4 ret 0 538 [.ref 3000, .ref 0, .ref 224, .int (nI i)] [] 238 mi ml mr := by
  obtain ⟨D, E, Λ, late, tr, t, m, im, l, r, hr, hX, hY, hF⟩ := hJ
  refine e_aload_n 539 dL_law_538 rfl rfl ?_
  refine e_aload_n 540 dL_law_539 rfl rfl ?_
  refine e_iload_n 541 dL_law_540 rfl rfl ?_
  refine e_iconst 542 hic_1 dL_law_541 rfl ?_
  first | refine e_iaddN 543 dL_law_542 rfl ?_ | refine e_iadd 543 dL_law_542 rfl ?_
  refine e_sld 544 dL_law_543 rfl hG rfl (by omega) hL ?_
  refine e_aload_n 545 dL_law_544 rfl rfl ?_
  refine e_iload_n 546 dL_law_545 rfl rfl ?_
  refine e_iconst 547 hic_2 dL_law_546 rfl ?_
  first | refine e_iaddN 548 dL_law_547 rfl ?_ | refine e_iadd 548 dL_law_547 rfl ?_
  refine e_sld 549 dL_law_548 rfl hG rfl (by omega) hL ?_
  refine c_Vqi 552 (ci := 7) dL_law_549 (k_X7_life G hr hX hF) lm_L_68 zi_yX7_life zs_yX7_life rfl rfl (by decide) rfl rfl rfl (Nat.le_of_ble_eq_true rfl) (Nat.le_of_ble_eq_true rfl) (Nat.le_of_ble_eq_true rfl) (Nat.le_of_ble_eq_true rfl) zSl_rm ?_
  refine e_aload_n 553 dL_law_552 rfl rfl ?_
  refine e_aload_n 554 dL_law_553 rfl rfl ?_
  refine e_iload_n 555 dL_law_554 rfl rfl ?_
  refine e_iconst 556 hic_1 dL_law_555 rfl ?_
  first | refine e_iaddN 557 dL_law_556 rfl ?_ | refine e_iadd 557 dL_law_556 rfl ?_
  refine e_sld 558 dL_law_557 rfl hG rfl (by omega) hL ?_
  refine e_aload_n 559 dL_law_558 rfl rfl ?_
  refine e_iload_n 560 dL_law_559 rfl rfl ?_
  refine e_iconst 561 hic_2 dL_law_560 rfl ?_
  first | refine e_iaddN 562 dL_law_561 rfl ?_ | refine e_iadd 562 dL_law_561 rfl ?_
  refine e_sld 563 dL_law_562 rfl hG rfl (by omega) hL ?_
  refine c_Vi 566 (ci := 8) dL_law_563 (k_X8_life G hr hY hF) lm_L_71 zi_yX8_life zs_yX8_life rfl rfl (by decide) rfl rfl rfl (Nat.le_of_ble_eq_true rfl) (Nat.le_of_ble_eq_true rfl) (Nat.le_of_ble_eq_true rfl) (Nat.le_of_ble_eq_true rfl) zSl_rm ?_
  rintro x2 u2 b2 c2 ⟨rfl, hY2, f2, rfl, rfl⟩
  have hX2 := hX.fr9 (hF) hr.Dl f2 rfl
  refine e_icmp_eq 1148 569 dL_law_566 (by decide) rfl (fun h566 => ?_) (fun h566 => ?_)
  · exact hK _ _ _ ⟨_, _, _, _, _, _, _, _, _, _, hr, hX2, hY2, hF⟩
  · exact absurd rfl h566
set_option maxHeartbeats 4000000 in
set_option maxRecDepth 100000 in
theorem l_law_13 (G : zG) {mn : String} {i : Nat} {mi : zFi} {ml : zFl} {mr : zFr} (hG : zad G 3000 = G.2.2.2.2.2.1) (hL : zsL G ≤ 3072) (hi : i + 6 ≤ zsL G) (hJ : zJ mi ml mr) (hK : ∀ mi' ml' mr', zJ mi' ml' mr' → zE G room_1 lw_Z RL mn cL_law 4 ret 0 1148 [.ref 3000, .ref 0, .ref 224, .int (nI i)] [] 238 mi' ml' mr') : zE G room_1 lw_Z RL mn cL_law 4 ret 0 571 [.ref 3000, .ref 0, .ref 224, .int (nI i)] [] 238 mi ml mr := by
  obtain ⟨D, E, Λ, late, tr, t, m, im, l, r, hr, hX, hY, hF⟩ := hJ
  refine e_aload_n 572 dL_law_571 rfl rfl ?_
  refine e_aload_n 573 dL_law_572 rfl rfl ?_
  refine e_iload_n 574 dL_law_573 rfl rfl ?_
  refine e_iconst 575 hic_1 dL_law_574 rfl ?_
  first | refine e_iaddN 576 dL_law_575 rfl ?_ | refine e_iadd 576 dL_law_575 rfl ?_
  refine e_sld 577 dL_law_576 rfl hG rfl (by omega) hL ?_
  refine e_aload_n 578 dL_law_577 rfl rfl ?_
  refine e_iload_n 579 dL_law_578 rfl rfl ?_
  refine e_iconst 580 hic_2 dL_law_579 rfl ?_
  first | refine e_iaddN 581 dL_law_580 rfl ?_ | refine e_iadd 581 dL_law_580 rfl ?_
  refine e_sld 582 dL_law_581 rfl hG rfl (by omega) hL ?_
  refine c_Vqi 585 (ci := 7) dL_law_582 (k_X7_printed G hr hX hF) lm_L_72 zi_yX7_printed zs_yX7_printed rfl rfl (by decide) rfl rfl rfl (Nat.le_of_ble_eq_true rfl) (Nat.le_of_ble_eq_true rfl) (Nat.le_of_ble_eq_true rfl) (Nat.le_of_ble_eq_true rfl) zSl_rm ?_
  refine e_aload_n 586 dL_law_585 rfl rfl ?_
  refine e_aload_n 587 dL_law_586 rfl rfl ?_
  refine e_iload_n 588 dL_law_587 rfl rfl ?_
  refine e_iconst 589 hic_1 dL_law_588 rfl ?_
  first | refine e_iaddN 590 dL_law_589 rfl ?_ | refine e_iadd 590 dL_law_589 rfl ?_
  refine e_sld 591 dL_law_590 rfl hG rfl (by omega) hL ?_
  refine e_aload_n 592 dL_law_591 rfl rfl ?_
  refine e_iload_n 593 dL_law_592 rfl rfl ?_
  refine e_iconst 594 hic_2 dL_law_593 rfl ?_
  first | refine e_iaddN 595 dL_law_594 rfl ?_ | refine e_iadd 595 dL_law_594 rfl ?_
  refine e_sld 596 dL_law_595 rfl hG rfl (by omega) hL ?_
  refine c_Vi 599 (ci := 8) dL_law_596 (k_X8_printed G hr hY hF) lm_L_75 zi_yX8_printed zs_yX8_printed rfl rfl (by decide) rfl rfl rfl (Nat.le_of_ble_eq_true rfl) (Nat.le_of_ble_eq_true rfl) (Nat.le_of_ble_eq_true rfl) (Nat.le_of_ble_eq_true rfl) zSl_rm ?_
  rintro x2 u2 b2 c2 ⟨rfl, hY2, f2, rfl, rfl⟩
  have hX2 := hX.fr9 (hF) hr.Dl f2 rfl
  refine e_icmp_eq 1148 602 dL_law_599 (by decide) rfl (fun h599 => ?_) (fun h599 => ?_)
  · exact hK _ _ _ ⟨_, _, _, _, _, _, _, _, _, _, hr, hX2, hY2, hF⟩
  · exact absurd rfl h599
set_option maxHeartbeats 4000000 in
set_option maxRecDepth 100000 in
theorem l_law_14 (G : zG) {mn : String} {i : Nat} {mi : zFi} {ml : zFl} {mr : zFr} (hG : zad G 3000 = G.2.2.2.2.2.1) (hL : zsL G ≤ 3072) (hi : i + 6 ≤ zsL G) (hJ : zJ mi ml mr) (hK : ∀ mi' ml' mr', zJ mi' ml' mr' → zE G room_1 lw_Z RL mn cL_law 4 ret 0 1148 [.ref 3000, .ref 0, .ref 224, .int (nI i)] [] 238 mi' ml' mr') : zE G room_1 lw_Z RL mn cL_law 4 ret 0 604 [.ref 3000, .ref 0, .ref 224, .int (nI i)] [] 238 mi ml mr := by
  obtain ⟨D, E, Λ, late, tr, t, m, im, l, r, hr, hX, hY, hF⟩ := hJ
  refine e_aload_n 605 dL_law_604 rfl rfl ?_
  refine e_aload_n 606 dL_law_605 rfl rfl ?_
  refine e_iload_n 607 dL_law_606 rfl rfl ?_
  refine e_iconst 608 hic_1 dL_law_607 rfl ?_
  first | refine e_iaddN 609 dL_law_608 rfl ?_ | refine e_iadd 609 dL_law_608 rfl ?_
  refine e_sld 610 dL_law_609 rfl hG rfl (by omega) hL ?_
  refine e_aload_n 611 dL_law_610 rfl rfl ?_
  refine e_iload_n 612 dL_law_611 rfl rfl ?_
  refine e_iconst 613 hic_2 dL_law_612 rfl ?_
  first | refine e_iaddN 614 dL_law_613 rfl ?_ | refine e_iadd 614 dL_law_613 rfl ?_
  refine e_sld 615 dL_law_614 rfl hG rfl (by omega) hL ?_
  refine e_aload_n 616 dL_law_615 rfl rfl ?_
  refine e_iload_n 617 dL_law_616 rfl rfl ?_
  refine e_iconst 618 hic_3 dL_law_617 rfl ?_
  first | refine e_iaddN 619 dL_law_618 rfl ?_ | refine e_iadd 619 dL_law_618 rfl ?_
  refine e_sld 620 dL_law_619 rfl hG rfl (by omega) hL ?_
  refine e_aload_n 621 dL_law_620 rfl rfl ?_
  refine e_iload_n 622 dL_law_621 rfl rfl ?_
  refine e_iconst 623 hic_4 dL_law_622 rfl ?_
  first | refine e_iaddN 624 dL_law_623 rfl ?_ | refine e_iadd 624 dL_law_623 rfl ?_
  refine e_sld 625 dL_law_624 rfl hG rfl (by omega) hL ?_
  refine e_aload_n 626 dL_law_625 rfl rfl ?_
  refine e_iload_n 627 dL_law_626 rfl rfl ?_
  refine e_iconst 628 hic_5 dL_law_627 rfl ?_
  first | refine e_iaddN 629 dL_law_628 rfl ?_ | refine e_iadd 629 dL_law_628 rfl ?_
  refine e_sld 630 dL_law_629 rfl hG rfl (by omega) hL ?_
  refine c_Vql 633 (ci := 7) dL_law_630 (k_X7_old G hr hX hF) lm_L_76 zi_yX7_old zs_yX7_old rfl rfl (by decide) rfl rfl rfl (Nat.le_of_ble_eq_true rfl) (Nat.le_of_ble_eq_true rfl) (Nat.le_of_ble_eq_true rfl) (Nat.le_of_ble_eq_true rfl) zSl_rm ?_
  refine e_aload_n 634 dL_law_633 rfl rfl ?_
  refine e_aload_n 635 dL_law_634 rfl rfl ?_
  refine e_iload_n 636 dL_law_635 rfl rfl ?_
  refine e_iconst 637 hic_1 dL_law_636 rfl ?_
  first | refine e_iaddN 638 dL_law_637 rfl ?_ | refine e_iadd 638 dL_law_637 rfl ?_
  refine e_sld 639 dL_law_638 rfl hG rfl (by omega) hL ?_
  refine e_aload_n 640 dL_law_639 rfl rfl ?_
  refine e_iload_n 641 dL_law_640 rfl rfl ?_
  refine e_iconst 642 hic_2 dL_law_641 rfl ?_
  first | refine e_iaddN 643 dL_law_642 rfl ?_ | refine e_iadd 643 dL_law_642 rfl ?_
  refine e_sld 644 dL_law_643 rfl hG rfl (by omega) hL ?_
  refine e_aload_n 645 dL_law_644 rfl rfl ?_
  refine e_iload_n 646 dL_law_645 rfl rfl ?_
  refine e_iconst 647 hic_3 dL_law_646 rfl ?_
  first | refine e_iaddN 648 dL_law_647 rfl ?_ | refine e_iadd 648 dL_law_647 rfl ?_
  refine e_sld 649 dL_law_648 rfl hG rfl (by omega) hL ?_
  refine e_aload_n 650 dL_law_649 rfl rfl ?_
  refine e_iload_n 651 dL_law_650 rfl rfl ?_
  refine e_iconst 652 hic_4 dL_law_651 rfl ?_
  first | refine e_iaddN 653 dL_law_652 rfl ?_ | refine e_iadd 653 dL_law_652 rfl ?_
  refine e_sld 654 dL_law_653 rfl hG rfl (by omega) hL ?_
  refine e_aload_n 655 dL_law_654 rfl rfl ?_
  refine e_iload_n 656 dL_law_655 rfl rfl ?_
  refine e_iconst 657 hic_5 dL_law_656 rfl ?_
  first | refine e_iaddN 658 dL_law_657 rfl ?_ | refine e_iadd 658 dL_law_657 rfl ?_
  refine e_sld 659 dL_law_658 rfl hG rfl (by omega) hL ?_
  refine c_Vl 662 (ci := 8) dL_law_659 (k_X8_old G hr hY hF) lm_L_80 zi_yX8_old zs_yX8_old rfl rfl (by decide) rfl rfl rfl (Nat.le_of_ble_eq_true rfl) (Nat.le_of_ble_eq_true rfl) (Nat.le_of_ble_eq_true rfl) (Nat.le_of_ble_eq_true rfl) zSl_rm ?_
  rintro x2 u2 b2 c2 ⟨rfl, hY2, f2, rfl, rfl⟩
  have hX2 := hX.fr9 (hF) hr.Dl f2 rfl
  refine e_lcmp 663 dL_law_662 rfl ?_
  refine e_if_eq 1148 666 dL_law_663 (by decide) rfl (fun h663 => ?_) (fun h663 => ?_)
  · exact hK _ _ _ ⟨_, _, _, _, _, _, _, _, _, _, hr, hX2, hY2, hF⟩
  · exact absurd ((lg_cmp_eq _ _).mpr rfl) h663
set_option maxHeartbeats 4000000 in
set_option maxRecDepth 100000 in
theorem l_law_15 (G : zG) {mn : String} {i : Nat} {mi : zFi} {ml : zFl} {mr : zFr} (hG : zad G 3000 = G.2.2.2.2.2.1) (hL : zsL G ≤ 3072) (hi : i + 6 ≤ zsL G) (hJ : zJ mi ml mr) (hK : ∀ mi' ml' mr', zJ mi' ml' mr' → zE G room_1 lw_Z RL mn cL_law 4 ret 0 1148 [.ref 3000, .ref 0, .ref 224, .int (nI i)] [] 238 mi' ml' mr') : zE G room_1 lw_Z RL mn cL_law 4 ret 0 668 [.ref 3000, .ref 0, .ref 224, .int (nI i)] [] 238 mi ml mr := by
  obtain ⟨D, E, Λ, late, tr, t, m, im, l, r, hr, hX, hY, hF⟩ := hJ
  refine e_aload_n 669 dL_law_668 rfl rfl ?_
  refine e_aload_n 670 dL_law_669 rfl rfl ?_
  refine e_iload_n 671 dL_law_670 rfl rfl ?_
  refine e_iconst 672 hic_1 dL_law_671 rfl ?_
  first | refine e_iaddN 673 dL_law_672 rfl ?_ | refine e_iadd 673 dL_law_672 rfl ?_
  refine e_sld 674 dL_law_673 rfl hG rfl (by omega) hL ?_
  refine e_aload_n 675 dL_law_674 rfl rfl ?_
  refine e_iload_n 676 dL_law_675 rfl rfl ?_
  refine e_iconst 677 hic_2 dL_law_676 rfl ?_
  first | refine e_iaddN 678 dL_law_677 rfl ?_ | refine e_iadd 678 dL_law_677 rfl ?_
  refine e_sld 679 dL_law_678 rfl hG rfl (by omega) hL ?_
  refine e_aload_n 680 dL_law_679 rfl rfl ?_
  refine e_iload_n 681 dL_law_680 rfl rfl ?_
  refine e_iconst 682 hic_3 dL_law_681 rfl ?_
  first | refine e_iaddN 683 dL_law_682 rfl ?_ | refine e_iadd 683 dL_law_682 rfl ?_
  refine e_sld 684 dL_law_683 rfl hG rfl (by omega) hL ?_
  refine c_Vqi 687 (ci := 7) dL_law_684 (k_X7_likeliest G hr hX hF) lm_L_81 zi_yX7_likeliest zs_yX7_likeliest rfl rfl (by decide) rfl rfl rfl (Nat.le_of_ble_eq_true rfl) (Nat.le_of_ble_eq_true rfl) (Nat.le_of_ble_eq_true rfl) (Nat.le_of_ble_eq_true rfl) zSl_rm ?_
  refine e_aload_n 688 dL_law_687 rfl rfl ?_
  refine e_aload_n 689 dL_law_688 rfl rfl ?_
  refine e_iload_n 690 dL_law_689 rfl rfl ?_
  refine e_iconst 691 hic_1 dL_law_690 rfl ?_
  first | refine e_iaddN 692 dL_law_691 rfl ?_ | refine e_iadd 692 dL_law_691 rfl ?_
  refine e_sld 693 dL_law_692 rfl hG rfl (by omega) hL ?_
  refine e_aload_n 694 dL_law_693 rfl rfl ?_
  refine e_iload_n 695 dL_law_694 rfl rfl ?_
  refine e_iconst 696 hic_2 dL_law_695 rfl ?_
  first | refine e_iaddN 697 dL_law_696 rfl ?_ | refine e_iadd 697 dL_law_696 rfl ?_
  refine e_sld 698 dL_law_697 rfl hG rfl (by omega) hL ?_
  refine e_aload_n 699 dL_law_698 rfl rfl ?_
  refine e_iload_n 700 dL_law_699 rfl rfl ?_
  refine e_iconst 701 hic_3 dL_law_700 rfl ?_
  first | refine e_iaddN 702 dL_law_701 rfl ?_ | refine e_iadd 702 dL_law_701 rfl ?_
  refine e_sld 703 dL_law_702 rfl hG rfl (by omega) hL ?_
  refine c_Vi 706 (ci := 8) dL_law_703 (k_X8_likeliest G hr hY hF) lm_L_84 zi_yX8_likeliest zs_yX8_likeliest rfl rfl (by decide) rfl rfl rfl (Nat.le_of_ble_eq_true rfl) (Nat.le_of_ble_eq_true rfl) (Nat.le_of_ble_eq_true rfl) (Nat.le_of_ble_eq_true rfl) zSl_rm ?_
  rintro x2 u2 b2 c2 ⟨rfl, hY2, f2, rfl, rfl⟩
  have hX2 := hX.fr9 (hF) hr.Dl f2 rfl
  refine e_icmp_eq 1148 709 dL_law_706 (by decide) rfl (fun h706 => ?_) (fun h706 => ?_)
  · exact hK _ _ _ ⟨_, _, _, _, _, _, _, _, _, _, hr, hX2, hY2, hF⟩
  · exact absurd rfl h706
set_option maxHeartbeats 4000000 in
set_option maxRecDepth 100000 in
theorem l_law_16 (G : zG) {mn : String} {i : Nat} {mi : zFi} {ml : zFl} {mr : zFr} (hG : zad G 3000 = G.2.2.2.2.2.1) (hL : zsL G ≤ 3072) (hi : i + 6 ≤ zsL G) (hJ : zJ mi ml mr) (hK : ∀ mi' ml' mr', zJ mi' ml' mr' → zE G room_1 lw_Z RL mn cL_law 4 ret 0 1148 [.ref 3000, .ref 0, .ref 224, .int (nI i)] [] 238 mi' ml' mr') : zE G room_1 lw_Z RL mn cL_law 4 ret 0 711 [.ref 3000, .ref 0, .ref 224, .int (nI i)] [] 238 mi ml mr := by
  obtain ⟨D, E, Λ, late, tr, t, m, im, l, r, hr, hX, hY, hF⟩ := hJ
  refine e_aload_n 712 dL_law_711 rfl rfl ?_
  refine e_aload_n 713 dL_law_712 rfl rfl ?_
  refine e_iload_n 714 dL_law_713 rfl rfl ?_
  refine e_iconst 715 hic_1 dL_law_714 rfl ?_
  first | refine e_iaddN 716 dL_law_715 rfl ?_ | refine e_iadd 716 dL_law_715 rfl ?_
  refine e_sld 717 dL_law_716 rfl hG rfl (by omega) hL ?_
  refine e_aload_n 718 dL_law_717 rfl rfl ?_
  refine e_iload_n 719 dL_law_718 rfl rfl ?_
  refine e_iconst 720 hic_2 dL_law_719 rfl ?_
  first | refine e_iaddN 721 dL_law_720 rfl ?_ | refine e_iadd 721 dL_law_720 rfl ?_
  refine e_sld 722 dL_law_721 rfl hG rfl (by omega) hL ?_
  refine e_aload_n 723 dL_law_722 rfl rfl ?_
  refine e_iload_n 724 dL_law_723 rfl rfl ?_
  refine e_iconst 725 hic_3 dL_law_724 rfl ?_
  first | refine e_iaddN 726 dL_law_725 rfl ?_ | refine e_iadd 726 dL_law_725 rfl ?_
  refine e_sld 727 dL_law_726 rfl hG rfl (by omega) hL ?_
  refine e_aload_n 728 dL_law_727 rfl rfl ?_
  refine e_iload_n 729 dL_law_728 rfl rfl ?_
  refine e_iconst 730 hic_4 dL_law_729 rfl ?_
  first | refine e_iaddN 731 dL_law_730 rfl ?_ | refine e_iadd 731 dL_law_730 rfl ?_
  refine e_sld 732 dL_law_731 rfl hG rfl (by omega) hL ?_
  refine c_Vi 735 (ci := 7) dL_law_732 (k_X7_letter G hr hX hF) lm_L_85 zi_yX7_letter zs_yX7_letter rfl rfl (by decide) rfl rfl rfl (Nat.le_of_ble_eq_true rfl) (Nat.le_of_ble_eq_true rfl) (Nat.le_of_ble_eq_true rfl) (Nat.le_of_ble_eq_true rfl) zSl_rm ?_
  rintro x1 u1 b1 c1 ⟨rfl, hX1, f1, rfl, rfl⟩
  have hX := hX1
  have hY := hY.fr9 f1 rfl
  refine e_aload_n 736 dL_law_735 rfl rfl ?_
  refine e_aload_n 737 dL_law_736 rfl rfl ?_
  refine e_iload_n 738 dL_law_737 rfl rfl ?_
  refine e_iconst 739 hic_1 dL_law_738 rfl ?_
  first | refine e_iaddN 740 dL_law_739 rfl ?_ | refine e_iadd 740 dL_law_739 rfl ?_
  refine e_sld 741 dL_law_740 rfl hG rfl (by omega) hL ?_
  refine e_aload_n 742 dL_law_741 rfl rfl ?_
  refine e_iload_n 743 dL_law_742 rfl rfl ?_
  refine e_iconst 744 hic_2 dL_law_743 rfl ?_
  first | refine e_iaddN 745 dL_law_744 rfl ?_ | refine e_iadd 745 dL_law_744 rfl ?_
  refine e_sld 746 dL_law_745 rfl hG rfl (by omega) hL ?_
  refine e_aload_n 747 dL_law_746 rfl rfl ?_
  refine e_iload_n 748 dL_law_747 rfl rfl ?_
  refine e_iconst 749 hic_3 dL_law_748 rfl ?_
  first | refine e_iaddN 750 dL_law_749 rfl ?_ | refine e_iadd 750 dL_law_749 rfl ?_
  refine e_sld 751 dL_law_750 rfl hG rfl (by omega) hL ?_
  refine e_aload_n 752 dL_law_751 rfl rfl ?_
  refine e_iload_n 753 dL_law_752 rfl rfl ?_
  refine e_iconst 754 hic_4 dL_law_753 rfl ?_
  first | refine e_iaddN 755 dL_law_754 rfl ?_ | refine e_iadd 755 dL_law_754 rfl ?_
  refine e_sld 756 dL_law_755 rfl hG rfl (by omega) hL ?_
  refine c_Vi 759 (ci := 8) dL_law_756 (k_X8_letter G hr hY hF) lm_L_89 zi_yX8_letter zs_yX8_letter rfl rfl (by decide) rfl rfl rfl (Nat.le_of_ble_eq_true rfl) (Nat.le_of_ble_eq_true rfl) (Nat.le_of_ble_eq_true rfl) (Nat.le_of_ble_eq_true rfl) zSl_rm ?_
  rintro x2 u2 b2 c2 ⟨rfl, hY2, f2, rfl, rfl⟩
  have hX2 := hX.fr9 (sLetter_F hF) hr.Dl f2 rfl
  refine e_icmp_eq 1148 762 dL_law_759 (by decide) rfl (fun h759 => ?_) (fun h759 => ?_)
  · exact hK _ _ _ ⟨_, _, _, _, _, _, _, _, _, _, hr, hX2, hY2, sLetter_F hF⟩
  · exact absurd rfl h759
set_option maxHeartbeats 4000000 in
set_option maxRecDepth 100000 in
theorem l_law_17 (G : zG) {mn : String} {i : Nat} {mi : zFi} {ml : zFl} {mr : zFr} (hG : zad G 3000 = G.2.2.2.2.2.1) (hL : zsL G ≤ 3072) (hi : i + 6 ≤ zsL G) (hJ : zJ mi ml mr) (hK : ∀ mi' ml' mr', zJ mi' ml' mr' → zE G room_1 lw_Z RL mn cL_law 4 ret 0 1148 [.ref 3000, .ref 0, .ref 224, .int (nI i)] [] 238 mi' ml' mr') : zE G room_1 lw_Z RL mn cL_law 4 ret 0 764 [.ref 3000, .ref 0, .ref 224, .int (nI i)] [] 238 mi ml mr := by
  obtain ⟨D, E, Λ, late, tr, t, m, im, l, r, hr, hX, hY, hF⟩ := hJ
  refine e_aload_n 765 dL_law_764 rfl rfl ?_
  refine c_Vi 768 (ci := 7) dL_law_765 (k_X7_could G hr hX hF) lm_L_90 zi_yX7_could zs_yX7_could rfl rfl (by decide) rfl rfl rfl (Nat.le_of_ble_eq_true rfl) (Nat.le_of_ble_eq_true rfl) (Nat.le_of_ble_eq_true rfl) (Nat.le_of_ble_eq_true rfl) zSl_rm ?_
  rintro x1 u1 b1 c1 ⟨rfl, hX1, f1, rfl, rfl⟩
  have hX := hX1
  have hY := hY.fr9 f1 rfl
  refine e_aload_n 769 dL_law_768 rfl rfl ?_
  refine c_Vi 772 (ci := 8) dL_law_769 (k_X8_could G hr hY hF) lm_L_93 zi_yX8_could zs_yX8_could rfl rfl (by decide) rfl rfl rfl (Nat.le_of_ble_eq_true rfl) (Nat.le_of_ble_eq_true rfl) (Nat.le_of_ble_eq_true rfl) (Nat.le_of_ble_eq_true rfl) zSl_rm ?_
  rintro x2 u2 b2 c2 ⟨rfl, hY2, f2, rfl, rfl⟩
  have hX2 := hX.fr9 (hF) hr.Dl f2 rfl
  refine e_icmp_eq 1148 775 dL_law_772 (by decide) rfl (fun h772 => ?_) (fun h772 => ?_)
  · exact hK _ _ _ ⟨_, _, _, _, _, _, _, _, _, _, hr, hX2, hY2, hF⟩
  · exact absurd rfl h772
set_option maxHeartbeats 4000000 in
set_option maxRecDepth 100000 in
theorem l_law_18 (G : zG) {mn : String} {i : Nat} {mi : zFi} {ml : zFl} {mr : zFr} (hG : zad G 3000 = G.2.2.2.2.2.1) (hL : zsL G ≤ 3072) (hi : i + 6 ≤ zsL G) (hJ : zJ mi ml mr) (hK : ∀ mi' ml' mr', zJ mi' ml' mr' → zE G room_1 lw_Z RL mn cL_law 4 ret 0 1148 [.ref 3000, .ref 0, .ref 224, .int (nI i)] [] 238 mi' ml' mr') : zE G room_1 lw_Z RL mn cL_law 4 ret 0 777 [.ref 3000, .ref 0, .ref 224, .int (nI i)] [] 238 mi ml mr := by
  obtain ⟨D, E, Λ, late, tr, t, m, im, l, r, hr, hX, hY, hF⟩ := hJ
  refine e_aload_n 778 dL_law_777 rfl rfl ?_
  refine e_aload_n 779 dL_law_778 rfl rfl ?_
  refine e_iload_n 780 dL_law_779 rfl rfl ?_
  refine e_iconst 781 hic_1 dL_law_780 rfl ?_
  first | refine e_iaddN 782 dL_law_781 rfl ?_ | refine e_iadd 782 dL_law_781 rfl ?_
  refine e_sld 783 dL_law_782 rfl hG rfl (by omega) hL ?_
  refine e_aload_n 784 dL_law_783 rfl rfl ?_
  refine e_iload_n 785 dL_law_784 rfl rfl ?_
  refine e_iconst 786 hic_2 dL_law_785 rfl ?_
  first | refine e_iaddN 787 dL_law_786 rfl ?_ | refine e_iadd 787 dL_law_786 rfl ?_
  refine e_sld 788 dL_law_787 rfl hG rfl (by omega) hL ?_
  refine e_aload_n 789 dL_law_788 rfl rfl ?_
  refine e_iload_n 790 dL_law_789 rfl rfl ?_
  refine e_iconst 791 hic_3 dL_law_790 rfl ?_
  first | refine e_iaddN 792 dL_law_791 rfl ?_ | refine e_iadd 792 dL_law_791 rfl ?_
  refine e_sld 793 dL_law_792 rfl hG rfl (by omega) hL ?_
  refine e_aload_n 794 dL_law_793 rfl rfl ?_
  refine e_iload_n 795 dL_law_794 rfl rfl ?_
  refine e_iconst 796 hic_4 dL_law_795 rfl ?_
  first | refine e_iaddN 797 dL_law_796 rfl ?_ | refine e_iadd 797 dL_law_796 rfl ?_
  refine e_sld 798 dL_law_797 rfl hG rfl (by omega) hL ?_
  refine c_Vl 801 (ci := 7) dL_law_798 (k_X7_forged G hr hX hF) lm_L_94 zi_yX7_forged zs_yX7_forged rfl rfl (by decide) rfl rfl rfl (Nat.le_of_ble_eq_true rfl) (Nat.le_of_ble_eq_true rfl) (Nat.le_of_ble_eq_true rfl) (Nat.le_of_ble_eq_true rfl) zSl_rm ?_
  rintro x1 u1 b1 c1 ⟨rfl, hX1, f1, rfl, rfl⟩
  have hX := hX1
  have hY := hY.fr9 f1 rfl
  refine e_aload_n 802 dL_law_801 rfl rfl ?_
  refine e_aload_n 803 dL_law_802 rfl rfl ?_
  refine e_iload_n 804 dL_law_803 rfl rfl ?_
  refine e_iconst 805 hic_1 dL_law_804 rfl ?_
  first | refine e_iaddN 806 dL_law_805 rfl ?_ | refine e_iadd 806 dL_law_805 rfl ?_
  refine e_sld 807 dL_law_806 rfl hG rfl (by omega) hL ?_
  refine e_aload_n 808 dL_law_807 rfl rfl ?_
  refine e_iload_n 809 dL_law_808 rfl rfl ?_
  refine e_iconst 810 hic_2 dL_law_809 rfl ?_
  first | refine e_iaddN 811 dL_law_810 rfl ?_ | refine e_iadd 811 dL_law_810 rfl ?_
  refine e_sld 812 dL_law_811 rfl hG rfl (by omega) hL ?_
  refine e_aload_n 813 dL_law_812 rfl rfl ?_
  refine e_iload_n 814 dL_law_813 rfl rfl ?_
  refine e_iconst 815 hic_3 dL_law_814 rfl ?_
  first | refine e_iaddN 816 dL_law_815 rfl ?_ | refine e_iadd 816 dL_law_815 rfl ?_
  refine e_sld 817 dL_law_816 rfl hG rfl (by omega) hL ?_
  refine e_aload_n 818 dL_law_817 rfl rfl ?_
  refine e_iload_n 819 dL_law_818 rfl rfl ?_
  refine e_iconst 820 hic_4 dL_law_819 rfl ?_
  first | refine e_iaddN 821 dL_law_820 rfl ?_ | refine e_iadd 821 dL_law_820 rfl ?_
  refine e_sld 822 dL_law_821 rfl hG rfl (by omega) hL ?_
  refine c_Vl 825 (ci := 8) dL_law_822 (k_X8_forged G hr hY hF) lm_L_98 zi_yX8_forged zs_yX8_forged rfl rfl (by decide) rfl rfl rfl (Nat.le_of_ble_eq_true rfl) (Nat.le_of_ble_eq_true rfl) (Nat.le_of_ble_eq_true rfl) (Nat.le_of_ble_eq_true rfl) zSl_rm ?_
  rintro x2 u2 b2 c2 ⟨rfl, hY2, f2, rfl, rfl⟩
  have hX2 := hX.fr9 (hF) hr.Dl f2 rfl
  refine e_lcmp 826 dL_law_825 rfl ?_
  refine e_if_eq 1148 829 dL_law_826 (by decide) rfl (fun h826 => ?_) (fun h826 => ?_)
  · exact hK _ _ _ ⟨_, _, _, _, _, _, _, _, _, _, hr, hX2, hY2, hF⟩
  · exact absurd ((lg_cmp_eq _ _).mpr rfl) h826
set_option maxHeartbeats 4000000 in
set_option maxRecDepth 100000 in
theorem l_law_19 (G : zG) {mn : String} {i : Nat} {mi : zFi} {ml : zFl} {mr : zFr} (hG : zad G 3000 = G.2.2.2.2.2.1) (hL : zsL G ≤ 3072) (hi : i + 6 ≤ zsL G) (hJ : zJ mi ml mr) (hK : ∀ mi' ml' mr', zJ mi' ml' mr' → zE G room_1 lw_Z RL mn cL_law 4 ret 0 1148 [.ref 3000, .ref 0, .ref 224, .int (nI i)] [] 238 mi' ml' mr') : zE G room_1 lw_Z RL mn cL_law 4 ret 0 831 [.ref 3000, .ref 0, .ref 224, .int (nI i)] [] 238 mi ml mr := by
  obtain ⟨D, E, Λ, late, tr, t, m, im, l, r, hr, hX, hY, hF⟩ := hJ
  refine e_aload_n 832 dL_law_831 rfl rfl ?_
  refine e_aload_n 833 dL_law_832 rfl rfl ?_
  refine e_iload_n 834 dL_law_833 rfl rfl ?_
  refine e_iconst 835 hic_1 dL_law_834 rfl ?_
  first | refine e_iaddN 836 dL_law_835 rfl ?_ | refine e_iadd 836 dL_law_835 rfl ?_
  refine e_sld 837 dL_law_836 rfl hG rfl (by omega) hL ?_
  refine c_Vi 840 (ci := 7) dL_law_837 (k_X7_kills G hr hX hF) lm_L_99 zi_yX7_kills zs_yX7_kills rfl rfl (by decide) rfl rfl rfl (Nat.le_of_ble_eq_true rfl) (Nat.le_of_ble_eq_true rfl) (Nat.le_of_ble_eq_true rfl) (Nat.le_of_ble_eq_true rfl) zSl_rm ?_
  rintro x1 u1 b1 c1 ⟨rfl, hX1, f1, rfl, rfl⟩
  have hX := hX1
  have hY := hY.fr9 f1 rfl
  refine e_aload_n 841 dL_law_840 rfl rfl ?_
  refine e_aload_n 842 dL_law_841 rfl rfl ?_
  refine e_iload_n 843 dL_law_842 rfl rfl ?_
  refine e_iconst 844 hic_1 dL_law_843 rfl ?_
  first | refine e_iaddN 845 dL_law_844 rfl ?_ | refine e_iadd 845 dL_law_844 rfl ?_
  refine e_sld 846 dL_law_845 rfl hG rfl (by omega) hL ?_
  refine c_Vi 849 (ci := 8) dL_law_846 (k_X8_kills G hr hY hF) lm_L_102 zi_yX8_kills zs_yX8_kills rfl rfl (by decide) rfl rfl rfl (Nat.le_of_ble_eq_true rfl) (Nat.le_of_ble_eq_true rfl) (Nat.le_of_ble_eq_true rfl) (Nat.le_of_ble_eq_true rfl) zSl_rm ?_
  rintro x2 u2 b2 c2 ⟨rfl, hY2, f2, rfl, rfl⟩
  have hX2 := hX.fr9 (hF) hr.Dl f2 rfl
  refine e_icmp_eq 1148 852 dL_law_849 (by decide) rfl (fun h849 => ?_) (fun h849 => ?_)
  · exact hK _ _ _ ⟨_, _, _, _, _, _, _, _, _, _, hr, hX2, hY2, hF⟩
  · exact absurd rfl h849
set_option maxHeartbeats 4000000 in
set_option maxRecDepth 100000 in
theorem l_law_20 (G : zG) {mn : String} {i : Nat} {mi : zFi} {ml : zFl} {mr : zFr} (hG : zad G 3000 = G.2.2.2.2.2.1) (hL : zsL G ≤ 3072) (hi : i + 6 ≤ zsL G) (hJ : zJ mi ml mr) (hK : ∀ mi' ml' mr', zJ mi' ml' mr' → zE G room_1 lw_Z RL mn cL_law 4 ret 0 1148 [.ref 3000, .ref 0, .ref 224, .int (nI i)] [] 238 mi' ml' mr') : zE G room_1 lw_Z RL mn cL_law 4 ret 0 854 [.ref 3000, .ref 0, .ref 224, .int (nI i)] [] 238 mi ml mr := by
  obtain ⟨D, E, Λ, late, tr, t, m, im, l, r, hr, hX, hY, hF⟩ := hJ
  refine e_aload_n 855 dL_law_854 rfl rfl ?_
  refine e_aload_n 856 dL_law_855 rfl rfl ?_
  refine e_iload_n 857 dL_law_856 rfl rfl ?_
  refine e_iconst 858 hic_1 dL_law_857 rfl ?_
  first | refine e_iaddN 859 dL_law_858 rfl ?_ | refine e_iadd 859 dL_law_858 rfl ?_
  refine e_sld 860 dL_law_859 rfl hG rfl (by omega) hL ?_
  refine c_Vi 863 (ci := 7) dL_law_860 (k_X7_part G hr hX hF) lm_L_103 zi_yX7_part zs_yX7_part rfl rfl (by decide) rfl rfl rfl (Nat.le_of_ble_eq_true rfl) (Nat.le_of_ble_eq_true rfl) (Nat.le_of_ble_eq_true rfl) (Nat.le_of_ble_eq_true rfl) zSl_rm ?_
  rintro x1 u1 b1 c1 ⟨rfl, hX1, f1, rfl, rfl⟩
  have hX := hX1
  have hY := hY.fr9 f1 rfl
  refine e_aload_n 864 dL_law_863 rfl rfl ?_
  refine e_aload_n 865 dL_law_864 rfl rfl ?_
  refine e_iload_n 866 dL_law_865 rfl rfl ?_
  refine e_iconst 867 hic_1 dL_law_866 rfl ?_
  first | refine e_iaddN 868 dL_law_867 rfl ?_ | refine e_iadd 868 dL_law_867 rfl ?_
  refine e_sld 869 dL_law_868 rfl hG rfl (by omega) hL ?_
  refine c_Vi 872 (ci := 8) dL_law_869 (k_X8_part_ G hr hY hF) lm_L_106 zi_yX8_part_ zs_yX8_part_ rfl rfl (by decide) rfl rfl rfl (Nat.le_of_ble_eq_true rfl) (Nat.le_of_ble_eq_true rfl) (Nat.le_of_ble_eq_true rfl) (Nat.le_of_ble_eq_true rfl) zSl_rm ?_
  rintro x2 u2 b2 c2 ⟨rfl, hY2, f2, rfl, rfl⟩
  have hX2 := hX.fr9 (hF) hr.Dl f2 rfl
  refine e_icmp_eq 1148 875 dL_law_872 (by decide) rfl (fun h872 => ?_) (fun h872 => ?_)
  · exact hK _ _ _ ⟨_, _, _, _, _, _, _, _, _, _, hr, hX2, hY2, hF⟩
  · exact absurd rfl h872
set_option maxHeartbeats 4000000 in
set_option maxRecDepth 100000 in
theorem l_law_21 (G : zG) {mn : String} {i : Nat} {mi : zFi} {ml : zFl} {mr : zFr} (hG : zad G 3000 = G.2.2.2.2.2.1) (hL : zsL G ≤ 3072) (hi : i + 6 ≤ zsL G) (hJ : zJ mi ml mr) (hK : ∀ mi' ml' mr', zJ mi' ml' mr' → zE G room_1 lw_Z RL mn cL_law 4 ret 0 1148 [.ref 3000, .ref 0, .ref 224, .int (nI i)] [] 238 mi' ml' mr') : zE G room_1 lw_Z RL mn cL_law 4 ret 0 877 [.ref 3000, .ref 0, .ref 224, .int (nI i)] [] 238 mi ml mr := by
  obtain ⟨D, E, Λ, late, tr, t, m, im, l, r, hr, hX, hY, hF⟩ := hJ
  refine e_aload_n 878 dL_law_877 rfl rfl ?_
  refine e_aload_n 879 dL_law_878 rfl rfl ?_
  refine e_iload_n 880 dL_law_879 rfl rfl ?_
  refine e_iconst 881 hic_1 dL_law_880 rfl ?_
  first | refine e_iaddN 882 dL_law_881 rfl ?_ | refine e_iadd 882 dL_law_881 rfl ?_
  refine e_sld 883 dL_law_882 rfl hG rfl (by omega) hL ?_
  refine e_aload_n 884 dL_law_883 rfl rfl ?_
  refine e_iload_n 885 dL_law_884 rfl rfl ?_
  refine e_iconst 886 hic_2 dL_law_885 rfl ?_
  first | refine e_iaddN 887 dL_law_886 rfl ?_ | refine e_iadd 887 dL_law_886 rfl ?_
  refine e_sld 888 dL_law_887 rfl hG rfl (by omega) hL ?_
  refine e_aload_n 889 dL_law_888 rfl rfl ?_
  refine e_iload_n 890 dL_law_889 rfl rfl ?_
  refine e_iconst 891 hic_3 dL_law_890 rfl ?_
  first | refine e_iaddN 892 dL_law_891 rfl ?_ | refine e_iadd 892 dL_law_891 rfl ?_
  refine e_sld 893 dL_law_892 rfl hG rfl (by omega) hL ?_
  refine c_Vi 896 (ci := 7) dL_law_893 (k_X7_writing G hr hX hF) lm_L_107 zi_yX7_writing zs_yX7_writing rfl rfl (by decide) rfl rfl rfl (Nat.le_of_ble_eq_true rfl) (Nat.le_of_ble_eq_true rfl) (Nat.le_of_ble_eq_true rfl) (Nat.le_of_ble_eq_true rfl) zSl_rm ?_
  rintro x1 u1 b1 c1 ⟨rfl, hX1, f1, rfl, rfl⟩
  have hX := hX1
  have hY := hY.fr9 f1 rfl
  refine e_aload_n 897 dL_law_896 rfl rfl ?_
  refine e_aload_n 898 dL_law_897 rfl rfl ?_
  refine e_iload_n 899 dL_law_898 rfl rfl ?_
  refine e_iconst 900 hic_1 dL_law_899 rfl ?_
  first | refine e_iaddN 901 dL_law_900 rfl ?_ | refine e_iadd 901 dL_law_900 rfl ?_
  refine e_sld 902 dL_law_901 rfl hG rfl (by omega) hL ?_
  refine e_aload_n 903 dL_law_902 rfl rfl ?_
  refine e_iload_n 904 dL_law_903 rfl rfl ?_
  refine e_iconst 905 hic_2 dL_law_904 rfl ?_
  first | refine e_iaddN 906 dL_law_905 rfl ?_ | refine e_iadd 906 dL_law_905 rfl ?_
  refine e_sld 907 dL_law_906 rfl hG rfl (by omega) hL ?_
  refine e_aload_n 908 dL_law_907 rfl rfl ?_
  refine e_iload_n 909 dL_law_908 rfl rfl ?_
  refine e_iconst 910 hic_3 dL_law_909 rfl ?_
  first | refine e_iaddN 911 dL_law_910 rfl ?_ | refine e_iadd 911 dL_law_910 rfl ?_
  refine e_sld 912 dL_law_911 rfl hG rfl (by omega) hL ?_
  refine c_Vi 915 (ci := 8) dL_law_912 (k_X8_writing G hr hY hF) lm_L_110 zi_yX8_writing zs_yX8_writing rfl rfl (by decide) rfl rfl rfl (Nat.le_of_ble_eq_true rfl) (Nat.le_of_ble_eq_true rfl) (Nat.le_of_ble_eq_true rfl) (Nat.le_of_ble_eq_true rfl) zSl_rm ?_
  rintro x2 u2 b2 c2 ⟨rfl, hY2, f2, rfl, rfl⟩
  have hX2 := hX.fr9 (sWritR_F hF) hr.Dl f2 rfl
  refine e_icmp_eq 1148 918 dL_law_915 (by decide) rfl (fun h915 => ?_) (fun h915 => ?_)
  · exact hK _ _ _ ⟨_, _, _, _, _, _, _, _, _, _, hr, hX2, hY2, sWritR_F hF⟩
  · exact absurd rfl h915
set_option maxHeartbeats 4000000 in
set_option maxRecDepth 100000 in
theorem l_law_22 (G : zG) {mn : String} {i : Nat} {mi : zFi} {ml : zFl} {mr : zFr} (hG : zad G 3000 = G.2.2.2.2.2.1) (hL : zsL G ≤ 3072) (hi : i + 6 ≤ zsL G) (hJ : zJ mi ml mr) (hK : ∀ mi' ml' mr', zJ mi' ml' mr' → zE G room_1 lw_Z RL mn cL_law 4 ret 0 1148 [.ref 3000, .ref 0, .ref 224, .int (nI i)] [] 238 mi' ml' mr') : zE G room_1 lw_Z RL mn cL_law 4 ret 0 920 [.ref 3000, .ref 0, .ref 224, .int (nI i)] [] 238 mi ml mr := by
  obtain ⟨D, E, Λ, late, tr, t, m, im, l, r, hr, hX, hY, hF⟩ := hJ
  refine e_aload_n 921 dL_law_920 rfl rfl ?_
  refine e_aload_n 922 dL_law_921 rfl rfl ?_
  refine e_iload_n 923 dL_law_922 rfl rfl ?_
  refine e_iconst 924 hic_1 dL_law_923 rfl ?_
  first | refine e_iaddN 925 dL_law_924 rfl ?_ | refine e_iadd 925 dL_law_924 rfl ?_
  refine e_sld 926 dL_law_925 rfl hG rfl (by omega) hL ?_
  refine e_aload_n 927 dL_law_926 rfl rfl ?_
  refine e_iload_n 928 dL_law_927 rfl rfl ?_
  refine e_iconst 929 hic_2 dL_law_928 rfl ?_
  first | refine e_iaddN 930 dL_law_929 rfl ?_ | refine e_iadd 930 dL_law_929 rfl ?_
  refine e_sld 931 dL_law_930 rfl hG rfl (by omega) hL ?_
  refine c_Vqi 934 (ci := 7) dL_law_931 (k_X7_span G hr hX hF) lm_L_111 zi_yX7_span zs_yX7_span rfl rfl (by decide) rfl rfl rfl (Nat.le_of_ble_eq_true rfl) (Nat.le_of_ble_eq_true rfl) (Nat.le_of_ble_eq_true rfl) (Nat.le_of_ble_eq_true rfl) zSl_rm ?_
  refine e_aload_n 935 dL_law_934 rfl rfl ?_
  refine e_aload_n 936 dL_law_935 rfl rfl ?_
  refine e_iload_n 937 dL_law_936 rfl rfl ?_
  refine e_iconst 938 hic_1 dL_law_937 rfl ?_
  first | refine e_iaddN 939 dL_law_938 rfl ?_ | refine e_iadd 939 dL_law_938 rfl ?_
  refine e_sld 940 dL_law_939 rfl hG rfl (by omega) hL ?_
  refine e_aload_n 941 dL_law_940 rfl rfl ?_
  refine e_iload_n 942 dL_law_941 rfl rfl ?_
  refine e_iconst 943 hic_2 dL_law_942 rfl ?_
  first | refine e_iaddN 944 dL_law_943 rfl ?_ | refine e_iadd 944 dL_law_943 rfl ?_
  refine e_sld 945 dL_law_944 rfl hG rfl (by omega) hL ?_
  refine c_Vi 948 (ci := 8) dL_law_945 (k_X8_span G hr hY hF) lm_L_114 zi_yX8_span zs_yX8_span rfl rfl (by decide) rfl rfl rfl (Nat.le_of_ble_eq_true rfl) (Nat.le_of_ble_eq_true rfl) (Nat.le_of_ble_eq_true rfl) (Nat.le_of_ble_eq_true rfl) zSl_rm ?_
  rintro x2 u2 b2 c2 ⟨rfl, hY2, f2, rfl, rfl⟩
  have hX2 := hX.fr9 (hF) hr.Dl f2 rfl
  refine e_icmp_eq 1148 951 dL_law_948 (by decide) rfl (fun h948 => ?_) (fun h948 => ?_)
  · exact hK _ _ _ ⟨_, _, _, _, _, _, _, _, _, _, hr, hX2, hY2, hF⟩
  · exact absurd rfl h948
set_option maxHeartbeats 4000000 in
set_option maxRecDepth 100000 in
theorem l_law_23 (G : zG) {mn : String} {i : Nat} {mi : zFi} {ml : zFl} {mr : zFr} (hG : zad G 3000 = G.2.2.2.2.2.1) (hL : zsL G ≤ 3072) (hi : i + 6 ≤ zsL G) (hJ : zJ mi ml mr) (hK : ∀ mi' ml' mr', zJ mi' ml' mr' → zE G room_1 lw_Z RL mn cL_law 4 ret 0 1148 [.ref 3000, .ref 0, .ref 224, .int (nI i)] [] 238 mi' ml' mr') : zE G room_1 lw_Z RL mn cL_law 4 ret 0 953 [.ref 3000, .ref 0, .ref 224, .int (nI i)] [] 238 mi ml mr := by
  obtain ⟨D, E, Λ, late, tr, t, m, im, l, r, hr, hX, hY, hF⟩ := hJ
  refine e_aload_n 954 dL_law_953 rfl rfl ?_
  refine e_aload_n 955 dL_law_954 rfl rfl ?_
  refine e_iload_n 956 dL_law_955 rfl rfl ?_
  refine e_iconst 957 hic_1 dL_law_956 rfl ?_
  first | refine e_iaddN 958 dL_law_957 rfl ?_ | refine e_iadd 958 dL_law_957 rfl ?_
  refine e_sld 959 dL_law_958 rfl hG rfl (by omega) hL ?_
  refine c_Vqi 962 (ci := 7) dL_law_959 (k_X7_wants G hr hX hF) lm_L_115 zi_yX7_wants zs_yX7_wants rfl rfl (by decide) rfl rfl rfl (Nat.le_of_ble_eq_true rfl) (Nat.le_of_ble_eq_true rfl) (Nat.le_of_ble_eq_true rfl) (Nat.le_of_ble_eq_true rfl) zSl_rm ?_
  refine e_aload_n 963 dL_law_962 rfl rfl ?_
  refine e_aload_n 964 dL_law_963 rfl rfl ?_
  refine e_iload_n 965 dL_law_964 rfl rfl ?_
  refine e_iconst 966 hic_1 dL_law_965 rfl ?_
  first | refine e_iaddN 967 dL_law_966 rfl ?_ | refine e_iadd 967 dL_law_966 rfl ?_
  refine e_sld 968 dL_law_967 rfl hG rfl (by omega) hL ?_
  refine c_Vi 971 (ci := 8) dL_law_968 (k_X8_wants G hr hY hF) lm_L_118 zi_yX8_wants zs_yX8_wants rfl rfl (by decide) rfl rfl rfl (Nat.le_of_ble_eq_true rfl) (Nat.le_of_ble_eq_true rfl) (Nat.le_of_ble_eq_true rfl) (Nat.le_of_ble_eq_true rfl) zSl_rm ?_
  rintro x2 u2 b2 c2 ⟨rfl, hY2, f2, rfl, rfl⟩
  have hX2 := hX.fr9 (hF) hr.Dl f2 rfl
  refine e_icmp_eq 1148 974 dL_law_971 (by decide) rfl (fun h971 => ?_) (fun h971 => ?_)
  · exact hK _ _ _ ⟨_, _, _, _, _, _, _, _, _, _, hr, hX2, hY2, hF⟩
  · exact absurd rfl h971
set_option maxHeartbeats 4000000 in
set_option maxRecDepth 100000 in
theorem l_law_24 (G : zG) {mn : String} {i : Nat} {mi : zFi} {ml : zFl} {mr : zFr} (hG : zad G 3000 = G.2.2.2.2.2.1) (hL : zsL G ≤ 3072) (hi : i + 6 ≤ zsL G) (hJ : zJ mi ml mr) (hK : ∀ mi' ml' mr', zJ mi' ml' mr' → zE G room_1 lw_Z RL mn cL_law 4 ret 0 1148 [.ref 3000, .ref 0, .ref 224, .int (nI i)] [] 238 mi' ml' mr') : zE G room_1 lw_Z RL mn cL_law 4 ret 0 976 [.ref 3000, .ref 0, .ref 224, .int (nI i)] [] 238 mi ml mr := by
  obtain ⟨D, E, Λ, late, tr, t, m, im, l, r, hr, hX, hY, hF⟩ := hJ
  refine e_aload_n 977 dL_law_976 rfl rfl ?_
  refine e_aload_n 978 dL_law_977 rfl rfl ?_
  refine e_iload_n 979 dL_law_978 rfl rfl ?_
  refine e_iconst 980 hic_1 dL_law_979 rfl ?_
  first | refine e_iaddN 981 dL_law_980 rfl ?_ | refine e_iadd 981 dL_law_980 rfl ?_
  refine e_sld 982 dL_law_981 rfl hG rfl (by omega) hL ?_
  refine e_aload_n 983 dL_law_982 rfl rfl ?_
  refine e_iload_n 984 dL_law_983 rfl rfl ?_
  refine e_iconst 985 hic_2 dL_law_984 rfl ?_
  first | refine e_iaddN 986 dL_law_985 rfl ?_ | refine e_iadd 986 dL_law_985 rfl ?_
  refine e_sld 987 dL_law_986 rfl hG rfl (by omega) hL ?_
  refine c_Vi 990 (ci := 7) dL_law_987 (k_X7_drawn G hr hX hF) lm_L_119 zi_yX7_drawn zs_yX7_drawn rfl rfl (by decide) rfl rfl rfl (Nat.le_of_ble_eq_true rfl) (Nat.le_of_ble_eq_true rfl) (Nat.le_of_ble_eq_true rfl) (Nat.le_of_ble_eq_true rfl) zSl_rm ?_
  rintro x1 u1 b1 c1 ⟨rfl, hX1, f1, rfl, rfl⟩
  have hX := hX1
  have hY := hY.fr9 f1 rfl
  refine e_aload_n 991 dL_law_990 rfl rfl ?_
  refine e_aload_n 992 dL_law_991 rfl rfl ?_
  refine e_iload_n 993 dL_law_992 rfl rfl ?_
  refine e_iconst 994 hic_1 dL_law_993 rfl ?_
  first | refine e_iaddN 995 dL_law_994 rfl ?_ | refine e_iadd 995 dL_law_994 rfl ?_
  refine e_sld 996 dL_law_995 rfl hG rfl (by omega) hL ?_
  refine e_aload_n 997 dL_law_996 rfl rfl ?_
  refine e_iload_n 998 dL_law_997 rfl rfl ?_
  refine e_iconst 999 hic_2 dL_law_998 rfl ?_
  first | refine e_iaddN 1000 dL_law_999 rfl ?_ | refine e_iadd 1000 dL_law_999 rfl ?_
  refine e_sld 1001 dL_law_1000 rfl hG rfl (by omega) hL ?_
  refine c_Vi 1004 (ci := 8) dL_law_1001 (k_X8_drawn G hr hY hF) lm_L_122 zi_yX8_drawn zs_yX8_drawn rfl rfl (by decide) rfl rfl rfl (Nat.le_of_ble_eq_true rfl) (Nat.le_of_ble_eq_true rfl) (Nat.le_of_ble_eq_true rfl) (Nat.le_of_ble_eq_true rfl) zSl_rm ?_
  rintro x2 u2 b2 c2 ⟨rfl, hY2, f2, rfl, rfl⟩
  have hX2 := hX.fr9 (hF.m9 (sDrawnM_W hF.2.2.2.1)) hr.Dl f2 rfl
  refine e_icmp_eq 1148 1007 dL_law_1004 (by decide) rfl (fun h1004 => ?_) (fun h1004 => ?_)
  · exact hK _ _ _ ⟨_, _, _, _, _, _, _, _, _, _, hr, hX2, hY2, hF.m9 (sDrawnM_W hF.2.2.2.1)⟩
  · exact absurd rfl h1004
set_option maxHeartbeats 4000000 in
set_option maxRecDepth 100000 in
theorem l_law_25 (G : zG) {mn : String} {i : Nat} {mi : zFi} {ml : zFl} {mr : zFr} (hG : zad G 3000 = G.2.2.2.2.2.1) (hL : zsL G ≤ 3072) (hi : i + 6 ≤ zsL G) (hJ : zJ mi ml mr) (hK : ∀ mi' ml' mr', zJ mi' ml' mr' → zE G room_1 lw_Z RL mn cL_law 4 ret 0 1148 [.ref 3000, .ref 0, .ref 224, .int (nI i)] [] 238 mi' ml' mr') : zE G room_1 lw_Z RL mn cL_law 4 ret 0 1009 [.ref 3000, .ref 0, .ref 224, .int (nI i)] [] 238 mi ml mr := by
  obtain ⟨D, E, Λ, late, tr, t, m, im, l, r, hr, hX, hY, hF⟩ := hJ
  refine e_aload_n 1010 dL_law_1009 rfl rfl ?_
  refine e_aload_n 1011 dL_law_1010 rfl rfl ?_
  refine e_iload_n 1012 dL_law_1011 rfl rfl ?_
  refine e_iconst 1013 hic_1 dL_law_1012 rfl ?_
  first | refine e_iaddN 1014 dL_law_1013 rfl ?_ | refine e_iadd 1014 dL_law_1013 rfl ?_
  refine e_sld 1015 dL_law_1014 rfl hG rfl (by omega) hL ?_
  refine c_Vi 1018 (ci := 7) dL_law_1015 (k_X7_lot G hr hX hF) lm_L_123 zi_yX7_lot zs_yX7_lot rfl rfl (by decide) rfl rfl rfl (Nat.le_of_ble_eq_true rfl) (Nat.le_of_ble_eq_true rfl) (Nat.le_of_ble_eq_true rfl) (Nat.le_of_ble_eq_true rfl) zSl_rm ?_
  rintro x1 u1 b1 c1 ⟨rfl, hX1, f1, rfl, rfl⟩
  have hX := hX1
  have hY := hY.fr9 f1 rfl
  refine e_aload_n 1019 dL_law_1018 rfl rfl ?_
  refine e_aload_n 1020 dL_law_1019 rfl rfl ?_
  refine e_iload_n 1021 dL_law_1020 rfl rfl ?_
  refine e_iconst 1022 hic_1 dL_law_1021 rfl ?_
  first | refine e_iaddN 1023 dL_law_1022 rfl ?_ | refine e_iadd 1023 dL_law_1022 rfl ?_
  refine e_sld 1024 dL_law_1023 rfl hG rfl (by omega) hL ?_
  refine c_Vi 1027 (ci := 8) dL_law_1024 (k_X8_lot G hr hY hF) lm_L_126 zi_yX8_lot zs_yX8_lot rfl rfl (by decide) rfl rfl rfl (Nat.le_of_ble_eq_true rfl) (Nat.le_of_ble_eq_true rfl) (Nat.le_of_ble_eq_true rfl) (Nat.le_of_ble_eq_true rfl) zSl_rm ?_
  rintro x2 u2 b2 c2 ⟨rfl, hY2, f2, rfl, rfl⟩
  have hX2 := hX.fr9 (hF.m9 (zMoW_lot hF.2.2.2.1)) hr.Dl f2 rfl
  refine e_icmp_eq 1148 1030 dL_law_1027 (by decide) rfl (fun h1027 => ?_) (fun h1027 => ?_)
  · exact hK _ _ _ ⟨_, _, _, _, _, _, _, _, _, _, hr, hX2, hY2, hF.m9 (zMoW_lot hF.2.2.2.1)⟩
  · exact absurd rfl h1027
set_option maxHeartbeats 4000000 in
set_option maxRecDepth 100000 in
theorem l_law_26 (G : zG) {mn : String} {i : Nat} {mi : zFi} {ml : zFl} {mr : zFr} (hG : zad G 3000 = G.2.2.2.2.2.1) (hL : zsL G ≤ 3072) (hi : i + 6 ≤ zsL G) (hJ : zJ mi ml mr) (hK : ∀ mi' ml' mr', zJ mi' ml' mr' → zE G room_1 lw_Z RL mn cL_law 4 ret 0 1148 [.ref 3000, .ref 0, .ref 224, .int (nI i)] [] 238 mi' ml' mr') : zE G room_1 lw_Z RL mn cL_law 4 ret 0 1032 [.ref 3000, .ref 0, .ref 224, .int (nI i)] [] 238 mi ml mr := by
  obtain ⟨D, E, Λ, late, tr, t, m, im, l, r, hr, hX, hY, hF⟩ := hJ
  refine e_aload_n 1033 dL_law_1032 rfl rfl ?_
  refine e_aload_n 1034 dL_law_1033 rfl rfl ?_
  refine e_iload_n 1035 dL_law_1034 rfl rfl ?_
  refine e_iconst 1036 hic_1 dL_law_1035 rfl ?_
  first | refine e_iaddN 1037 dL_law_1036 rfl ?_ | refine e_iadd 1037 dL_law_1036 rfl ?_
  refine e_sld 1038 dL_law_1037 rfl hG rfl (by omega) hL ?_
  refine e_aload_n 1039 dL_law_1038 rfl rfl ?_
  refine e_iload_n 1040 dL_law_1039 rfl rfl ?_
  refine e_iconst 1041 hic_2 dL_law_1040 rfl ?_
  first | refine e_iaddN 1042 dL_law_1041 rfl ?_ | refine e_iadd 1042 dL_law_1041 rfl ?_
  refine e_sld 1043 dL_law_1042 rfl hG rfl (by omega) hL ?_
  refine c_Vi 1046 (ci := 7) dL_law_1043 (k_X7_rate G hr hX hF) lm_L_127 zi_yX7_rate zs_yX7_rate rfl rfl (by decide) rfl rfl rfl (Nat.le_of_ble_eq_true rfl) (Nat.le_of_ble_eq_true rfl) (Nat.le_of_ble_eq_true rfl) (Nat.le_of_ble_eq_true rfl) zSl_rm ?_
  rintro x1 u1 b1 c1 ⟨rfl, rfl, ht1, rfl⟩
  have hX := hX.tr ht1
  have hY := hY.fr9 (u := u1) (fun _ _ => rfl) (congrFun (ht1.2 224 (by decide)) 1)
  refine e_aload_n 1047 dL_law_1046 rfl rfl ?_
  refine e_aload_n 1048 dL_law_1047 rfl rfl ?_
  refine e_iload_n 1049 dL_law_1048 rfl rfl ?_
  refine e_iconst 1050 hic_1 dL_law_1049 rfl ?_
  first | refine e_iaddN 1051 dL_law_1050 rfl ?_ | refine e_iadd 1051 dL_law_1050 rfl ?_
  refine e_sld 1052 dL_law_1051 rfl hG rfl (by omega) hL ?_
  refine e_aload_n 1053 dL_law_1052 rfl rfl ?_
  refine e_iload_n 1054 dL_law_1053 rfl rfl ?_
  refine e_iconst 1055 hic_2 dL_law_1054 rfl ?_
  first | refine e_iaddN 1056 dL_law_1055 rfl ?_ | refine e_iadd 1056 dL_law_1055 rfl ?_
  refine e_sld 1057 dL_law_1056 rfl hG rfl (by omega) hL ?_
  refine c_Vi 1060 (ci := 8) dL_law_1057 (k_X8_rate G hr hY hF) lm_L_130 zi_yX8_rate zs_yX8_rate rfl rfl (by decide) rfl rfl rfl (Nat.le_of_ble_eq_true rfl) (Nat.le_of_ble_eq_true rfl) (Nat.le_of_ble_eq_true rfl) (Nat.le_of_ble_eq_true rfl) zSl_rm ?_
  rintro x2 u2 b2 c2 ⟨rfl, hY2, f2, ht2, rfl⟩
  have hX2 := hX.fr9 (hF) hr.Dl f2 (congrFun (ht2.2 0 (by decide)) 11)
  refine e_icmp_eq 1148 1063 dL_law_1060 (by decide) rfl (fun h1060 => ?_) (fun h1060 => ?_)
  · exact hK _ _ _ ⟨_, _, _, _, _, _, _, _, _, _, hr, hX2, hY2, hF⟩
  · exact absurd rfl h1060
set_option maxHeartbeats 4000000 in
set_option maxRecDepth 100000 in
theorem l_law_27 (G : zG) {mn : String} {i : Nat} {mi : zFi} {ml : zFl} {mr : zFr} (hG : zad G 3000 = G.2.2.2.2.2.1) (hL : zsL G ≤ 3072) (hi : i + 6 ≤ zsL G) (hJ : zJ mi ml mr) (hK : ∀ mi' ml' mr', zJ mi' ml' mr' → zE G room_1 lw_Z RL mn cL_law 4 ret 0 1148 [.ref 3000, .ref 0, .ref 224, .int (nI i)] [] 238 mi' ml' mr') : zE G room_1 lw_Z RL mn cL_law 4 ret 0 1065 [.ref 3000, .ref 0, .ref 224, .int (nI i)] [] 238 mi ml mr := by
  obtain ⟨D, E, Λ, late, tr, t, m, im, l, r, hr, hX, hY, hF⟩ := hJ
  refine e_aload_n 1066 dL_law_1065 rfl rfl ?_
  refine e_aload_n 1067 dL_law_1066 rfl rfl ?_
  refine e_iload_n 1068 dL_law_1067 rfl rfl ?_
  refine e_iconst 1069 hic_1 dL_law_1068 rfl ?_
  first | refine e_iaddN 1070 dL_law_1069 rfl ?_ | refine e_iadd 1070 dL_law_1069 rfl ?_
  refine e_sld 1071 dL_law_1070 rfl hG rfl (by omega) hL ?_
  refine c_Vi 1074 (ci := 7) dL_law_1071 (k_X7_keep G hr hX hF) lm_L_131 zi_yX7_keep zs_yX7_keep rfl rfl (by decide) rfl rfl rfl (Nat.le_of_ble_eq_true rfl) (Nat.le_of_ble_eq_true rfl) (Nat.le_of_ble_eq_true rfl) (Nat.le_of_ble_eq_true rfl) zSl_rm ?_
  rintro x1 u1 b1 c1 ⟨rfl, hX1, f1, rfl, rfl⟩
  have hX := hX1
  have hY := hY.fr9 f1 rfl
  refine e_aload_n 1075 dL_law_1074 rfl rfl ?_
  refine e_aload_n 1076 dL_law_1075 rfl rfl ?_
  refine e_iload_n 1077 dL_law_1076 rfl rfl ?_
  refine e_iconst 1078 hic_1 dL_law_1077 rfl ?_
  first | refine e_iaddN 1079 dL_law_1078 rfl ?_ | refine e_iadd 1079 dL_law_1078 rfl ?_
  refine e_sld 1080 dL_law_1079 rfl hG rfl (by omega) hL ?_
  refine c_Vi 1083 (ci := 8) dL_law_1080 (k_X8_keep G hr hY hF) lm_L_134 zi_yX8_keep zs_yX8_keep rfl rfl (by decide) rfl rfl rfl (Nat.le_of_ble_eq_true rfl) (Nat.le_of_ble_eq_true rfl) (Nat.le_of_ble_eq_true rfl) (Nat.le_of_ble_eq_true rfl) zSl_rm ?_
  rintro x2 u2 b2 c2 ⟨rfl, hY2, f2, rfl, rfl⟩
  have hX2 := hX.fr9 (hF.keep9) hr.Dl f2 rfl
  refine e_icmp_eq 1148 1086 dL_law_1083 (by decide) rfl (fun h1083 => ?_) (fun h1083 => ?_)
  · exact hK _ _ _ ⟨_, _, _, _, _, _, _, _, _, _, hr, hX2, hY2, hF.keep9⟩
  · exact absurd rfl h1083
set_option maxHeartbeats 4000000 in
set_option maxRecDepth 100000 in
theorem l_law_28 (G : zG) {mn : String} {i : Nat} {mi : zFi} {ml : zFl} {mr : zFr} (hG : zad G 3000 = G.2.2.2.2.2.1) (hL : zsL G ≤ 3072) (hi : i + 6 ≤ zsL G) (hJ : zJ mi ml mr) (hK : ∀ mi' ml' mr', zJ mi' ml' mr' → zE G room_1 lw_Z RL mn cL_law 4 ret 0 1148 [.ref 3000, .ref 0, .ref 224, .int (nI i)] [] 238 mi' ml' mr') : zE G room_1 lw_Z RL mn cL_law 4 ret 0 1088 [.ref 3000, .ref 0, .ref 224, .int (nI i)] [] 238 mi ml mr := by
  obtain ⟨D, E, Λ, late, tr, t, m, im, l, r, hr, hX, hY, hF⟩ := hJ
  refine e_aload_n 1089 dL_law_1088 rfl rfl ?_
  refine e_aload_n 1090 dL_law_1089 rfl rfl ?_
  refine e_iload_n 1091 dL_law_1090 rfl rfl ?_
  refine e_iconst 1092 hic_1 dL_law_1091 rfl ?_
  first | refine e_iaddN 1093 dL_law_1092 rfl ?_ | refine e_iadd 1093 dL_law_1092 rfl ?_
  refine e_sld 1094 dL_law_1093 rfl hG rfl (by omega) hL ?_
  refine c_Vi 1097 (ci := 7) dL_law_1094 (k_X7_back G hr hX hF) lm_L_135 zi_yX7_back zs_yX7_back rfl rfl (by decide) rfl rfl rfl (Nat.le_of_ble_eq_true rfl) (Nat.le_of_ble_eq_true rfl) (Nat.le_of_ble_eq_true rfl) (Nat.le_of_ble_eq_true rfl) zSl_rm ?_
  rintro x1 u1 b1 c1 ⟨rfl, hX1, f1, rfl, rfl⟩
  have hX := hX1
  have hY := hY.fr9 f1 rfl
  refine e_aload_n 1098 dL_law_1097 rfl rfl ?_
  refine e_aload_n 1099 dL_law_1098 rfl rfl ?_
  refine e_iload_n 1100 dL_law_1099 rfl rfl ?_
  refine e_iconst 1101 hic_1 dL_law_1100 rfl ?_
  first | refine e_iaddN 1102 dL_law_1101 rfl ?_ | refine e_iadd 1102 dL_law_1101 rfl ?_
  refine e_sld 1103 dL_law_1102 rfl hG rfl (by omega) hL ?_
  refine c_Vi 1106 (ci := 8) dL_law_1103 (k_X8_back G hr hY hF) lm_L_138 zi_yX8_back zs_yX8_back rfl rfl (by decide) rfl rfl rfl (Nat.le_of_ble_eq_true rfl) (Nat.le_of_ble_eq_true rfl) (Nat.le_of_ble_eq_true rfl) (Nat.le_of_ble_eq_true rfl) zSl_rm ?_
  rintro x2 u2 b2 c2 ⟨rfl, hY2, f2, rfl, rfl⟩
  have hX2 := hX.fr9 (hF.back9) hr.Dl f2 rfl
  refine e_icmp_eq 1148 1109 dL_law_1106 (by decide) rfl (fun h1106 => ?_) (fun h1106 => ?_)
  · exact hK _ _ _ ⟨_, _, _, _, _, _, _, _, _, _, hr, hX2, hY2, hF.back9⟩
  · exact absurd rfl h1106
set_option maxHeartbeats 4000000 in
set_option maxRecDepth 100000 in
theorem l_law_29 (G : zG) {mn : String} {i : Nat} {mi : zFi} {ml : zFl} {mr : zFr} (hG : zad G 3000 = G.2.2.2.2.2.1) (hL : zsL G ≤ 3072) (hi : i + 6 ≤ zsL G) (hJ : zJ mi ml mr) (hK : ∀ mi' ml' mr', zJ mi' ml' mr' → zE G room_1 lw_Z RL mn cL_law 4 ret 0 1148 [.ref 3000, .ref 0, .ref 224, .int (nI i)] [] 238 mi' ml' mr') : zE G room_1 lw_Z RL mn cL_law 4 ret 0 1111 [.ref 3000, .ref 0, .ref 224, .int (nI i)] [] 238 mi ml mr := by
  obtain ⟨D, E, Λ, late, tr, t, m, im, l, r, hr, hX, hY, hF⟩ := hJ
  refine e_aload_n 1112 dL_law_1111 rfl rfl ?_
  refine e_aload_n 1113 dL_law_1112 rfl rfl ?_
  refine e_iload_n 1114 dL_law_1113 rfl rfl ?_
  refine e_iconst 1115 hic_1 dL_law_1114 rfl ?_
  first | refine e_iaddN 1116 dL_law_1115 rfl ?_ | refine e_iadd 1116 dL_law_1115 rfl ?_
  refine e_sld 1117 dL_law_1116 rfl hG rfl (by omega) hL ?_
  refine c_Vqi 1120 (ci := 7) dL_law_1117 (k_X7_count G hr hX hF) lm_L_139 zi_yX7_count zs_yX7_count rfl rfl (by decide) rfl rfl rfl (Nat.le_of_ble_eq_true rfl) (Nat.le_of_ble_eq_true rfl) (Nat.le_of_ble_eq_true rfl) (Nat.le_of_ble_eq_true rfl) zSl_rm ?_
  refine e_aload_n 1121 dL_law_1120 rfl rfl ?_
  refine e_aload_n 1122 dL_law_1121 rfl rfl ?_
  refine e_iload_n 1123 dL_law_1122 rfl rfl ?_
  refine e_iconst 1124 hic_1 dL_law_1123 rfl ?_
  first | refine e_iaddN 1125 dL_law_1124 rfl ?_ | refine e_iadd 1125 dL_law_1124 rfl ?_
  refine e_sld 1126 dL_law_1125 rfl hG rfl (by omega) hL ?_
  refine c_Vi 1129 (ci := 8) dL_law_1126 (k_X8_count G hr hY hF) lm_L_142 zi_yX8_count zs_yX8_count rfl rfl (by decide) rfl rfl rfl (Nat.le_of_ble_eq_true rfl) (Nat.le_of_ble_eq_true rfl) (Nat.le_of_ble_eq_true rfl) (Nat.le_of_ble_eq_true rfl) zSl_rm ?_
  rintro x2 u2 b2 c2 ⟨rfl, hY2, f2, rfl, rfl⟩
  have hX2 := hX.fr9 (hF) hr.Dl f2 rfl
  refine e_icmp_eq 1148 1132 dL_law_1129 (by decide) rfl (fun h1129 => ?_) (fun h1129 => ?_)
  · exact hK _ _ _ ⟨_, _, _, _, _, _, _, _, _, _, hr, hX2, hY2, hF⟩
  · exact absurd rfl h1129
set_option maxHeartbeats 4000000 in
set_option maxRecDepth 100000 in
theorem l_law_30 (G : zG) {mn : String} {i : Nat} {mi : zFi} {ml : zFl} {mr : zFr} (hG : zad G 3000 = G.2.2.2.2.2.1) (hL : zsL G ≤ 3072) (hi : i + 6 ≤ zsL G) (hJ : zJ mi ml mr) (hK : ∀ mi' ml' mr', zJ mi' ml' mr' → zE G room_1 lw_Z RL mn cL_law 4 ret 0 1148 [.ref 3000, .ref 0, .ref 224, .int (nI i)] [] 238 mi' ml' mr') : zE G room_1 lw_Z RL mn cL_law 4 ret 0 1134 [.ref 3000, .ref 0, .ref 224, .int (nI i)] [] 238 mi ml mr := by
  obtain ⟨D, E, Λ, late, tr, t, m, im, l, r, hr, hX, hY, hF⟩ := hJ
  refine e_aload_n 1135 dL_law_1134 rfl rfl ?_
  refine c_Vql 1138 (ci := 7) dL_law_1135 (k_X7_trace G hr hX hF) lm_L_143 zi_yX7_trace zs_yX7_trace rfl rfl (by decide) rfl rfl rfl (Nat.le_of_ble_eq_true rfl) (Nat.le_of_ble_eq_true rfl) (Nat.le_of_ble_eq_true rfl) (Nat.le_of_ble_eq_true rfl) zSl_rm ?_
  refine e_aload_n 1139 dL_law_1138 rfl rfl ?_
  refine c_Vl 1142 (ci := 8) dL_law_1139 (k_X8_trace G hr hY hF) lm_L_147 zi_yX8_trace zs_yX8_trace rfl rfl (by decide) rfl rfl rfl (Nat.le_of_ble_eq_true rfl) (Nat.le_of_ble_eq_true rfl) (Nat.le_of_ble_eq_true rfl) (Nat.le_of_ble_eq_true rfl) zSl_rm ?_
  rintro x2 u2 b2 c2 ⟨rfl, hY2, f2, rfl, rfl⟩
  have hX2 := hX.fr9 (hF) hr.Dl f2 rfl
  refine e_lcmp 1143 dL_law_1142 rfl ?_
  refine e_if_eq 1148 1146 dL_law_1143 (by decide) rfl (fun h1143 => ?_) (fun h1143 => ?_)
  · exact hK _ _ _ ⟨_, _, _, _, _, _, _, _, _, _, hr, hX2, hY2, hF⟩
  · exact absurd ((lg_cmp_eq _ _).mpr rfl) h1143
set_option maxHeartbeats 4000000 in
set_option maxRecDepth 100000 in
theorem l_law_loop (G : zG) {mn : String} (hG : zad G 3000 = G.2.2.2.2.2.1) (hL : zsL G ≤ 3072) : ∀ (k i : Nat) (mi : zFi) (ml : zFl) (mr : zFr), i ≤ zsL G → zsL G < i + 6 + 6 * k → zJ mi ml mr → zE G room_1 lw_Z RL mn cL_law 4 ret 0 18 [.ref 3000, .ref 0, .ref 224, .int (nI i)] [] 238 mi ml mr := by
  intro k
  induction k with
  | zero =>
    intro i mi ml mr hi hf hJ
    refine e_iload_n 19 dL_law_18 rfl rfl ?_
    refine e_aload_n 20 dL_law_19 rfl rfl ?_
    refine e_slen 21 dL_law_20 rfl hG ?_
    refine e_bipush 23 hbi_6 dL_law_21 rfl ?_
    refine e_isub 24 dL_law_23 rfl ?_
    refine e_icmp_gt 1154 27 dL_law_24 (by decide) rfl (fun h24 => ?_) (fun h24 => ?_)
    · refine e_iconst 1155 hic_1 dL_law_1154 rfl ?_
      exact e_lret dL_law_1155 (Nat.le_refl _)
    · exact absurd ((zLp hL (by omega)).mpr (by omega)) h24
  | succ k ih =>
    intro i mi ml mr hi hf hJ
    refine e_iload_n 19 dL_law_18 rfl rfl ?_
    refine e_aload_n 20 dL_law_19 rfl rfl ?_
    refine e_slen 21 dL_law_20 rfl hG ?_
    refine e_bipush 23 hbi_6 dL_law_21 rfl ?_
    refine e_isub 24 dL_law_23 rfl ?_
    refine e_icmp_gt 1154 27 dL_law_24 (by decide) rfl (fun h24 => ?_) (fun h24 => ?_)
    · refine e_iconst 1155 hic_1 dL_law_1154 rfl ?_
      exact e_lret dL_law_1155 (Nat.le_refl _)
    · have h24 : i + 6 ≤ zsL G := by have := mt (zLp hL (i := i) (by omega)).mpr h24; omega
      refine e_aload_n 28 dL_law_27 rfl rfl ?_
      refine e_iload_n 29 dL_law_28 rfl rfl ?_
      refine e_sld 30 dL_law_29 rfl hG rfl (by omega) hL ?_
      refine e_bipush 32 hbi_31 dL_law_30 rfl ?_
      refine e_iand 33 dL_law_32 rfl ?_
      obtain ⟨k9, hk9, ek9⟩ := zAnd31 (zsc G i)
      rw [ek9]
      have hK : ∀ mi' ml' mr', zJ mi' ml' mr' → zE G room_1 lw_Z RL mn cL_law 4 ret 0 1148 [.ref 3000, .ref 0, .ref 224, .int (nI i)] [] 238 mi' ml' mr' := fun mi' ml' mr' hJ' => by
        refine e_iinc 1151 dL_law_1148 rfl (by decide) rfl (z_inc hii_6) (zst1_3 rfl) ?_
        refine e_goto 18 dL_law_1151 (by decide) ?_
        exact ih (i + 6) mi' ml' mr' (by omega) (by omega) hJ'
      have h32 : k9 = 0 ∨ k9 = 1 ∨ k9 = 2 ∨ k9 = 3 ∨ k9 = 4 ∨ k9 = 5 ∨ k9 = 6 ∨ k9 = 7 ∨ k9 = 8 ∨ k9 = 9 ∨ k9 = 10 ∨ k9 = 11 ∨ k9 = 12 ∨ k9 = 13 ∨ k9 = 14 ∨ k9 = 15 ∨ k9 = 16 ∨ k9 = 17 ∨ k9 = 18 ∨ k9 = 19 ∨ k9 = 20 ∨ k9 = 21 ∨ k9 = 22 ∨ k9 = 23 ∨ k9 = 24 ∨ k9 = 25 ∨ k9 = 26 ∨ k9 = 27 ∨ k9 = 28 ∨ k9 = 29 ∨ k9 = 30 ∨ k9 = 31 := by omega
      rcases h32 with q | q | q | q | q | q | q | q | q | q | q | q | q | q | q | q | q | q | q | q | q | q | q | q | q | q | q | q | q | q | q | q
      · rw [q]
        refine e_tableIn 172 (off := 139) dL_law_33 (by decide) (by decide) (by decide) (by decide) ?_
        exact l_law_0 G hG hL h24 hJ hK
      · rw [q]
        refine e_tableIn 235 (off := 202) dL_law_33 (by decide) (by decide) (by decide) (by decide) ?_
        exact l_law_1 G hG hL h24 hJ hK
      · rw [q]
        refine e_tableIn 248 (off := 215) dL_law_33 (by decide) (by decide) (by decide) (by decide) ?_
        exact l_law_2 G hG hL h24 hJ hK
      · rw [q]
        refine e_tableIn 261 (off := 228) dL_law_33 (by decide) (by decide) (by decide) (by decide) ?_
        exact l_law_3 G hG hL h24 hJ hK
      · rw [q]
        refine e_tableIn 284 (off := 251) dL_law_33 (by decide) (by decide) (by decide) (by decide) ?_
        exact l_law_4 G hG hL h24 hJ hK
      · rw [q]
        refine e_tableIn 307 (off := 274) dL_law_33 (by decide) (by decide) (by decide) (by decide) ?_
        exact l_law_5 G hG hL h24 hJ hK
      · rw [q]
        refine e_tableIn 340 (off := 307) dL_law_33 (by decide) (by decide) (by decide) (by decide) ?_
        exact l_law_6 G hG hL h24 hJ hK
      · rw [q]
        refine e_tableIn 373 (off := 340) dL_law_33 (by decide) (by decide) (by decide) (by decide) ?_
        exact l_law_7 G hG hL h24 hJ hK
      · rw [q]
        refine e_tableIn 396 (off := 363) dL_law_33 (by decide) (by decide) (by decide) (by decide) ?_
        exact l_law_8 G hG hL h24 hJ hK
      · rw [q]
        refine e_tableIn 409 (off := 376) dL_law_33 (by decide) (by decide) (by decide) (by decide) ?_
        exact l_law_9 G hG hL h24 hJ hK
      · rw [q]
        refine e_tableIn 452 (off := 419) dL_law_33 (by decide) (by decide) (by decide) (by decide) ?_
        exact l_law_10 G hG hL h24 hJ hK
      · rw [q]
        refine e_tableIn 495 (off := 462) dL_law_33 (by decide) (by decide) (by decide) (by decide) ?_
        exact l_law_11 G hG hL h24 hJ hK
      · rw [q]
        refine e_tableIn 538 (off := 505) dL_law_33 (by decide) (by decide) (by decide) (by decide) ?_
        exact l_law_12 G hG hL h24 hJ hK
      · rw [q]
        refine e_tableIn 571 (off := 538) dL_law_33 (by decide) (by decide) (by decide) (by decide) ?_
        exact l_law_13 G hG hL h24 hJ hK
      · rw [q]
        refine e_tableIn 604 (off := 571) dL_law_33 (by decide) (by decide) (by decide) (by decide) ?_
        exact l_law_14 G hG hL h24 hJ hK
      · rw [q]
        refine e_tableIn 668 (off := 635) dL_law_33 (by decide) (by decide) (by decide) (by decide) ?_
        exact l_law_15 G hG hL h24 hJ hK
      · rw [q]
        refine e_tableIn 711 (off := 678) dL_law_33 (by decide) (by decide) (by decide) (by decide) ?_
        exact l_law_16 G hG hL h24 hJ hK
      · rw [q]
        refine e_tableIn 764 (off := 731) dL_law_33 (by decide) (by decide) (by decide) (by decide) ?_
        exact l_law_17 G hG hL h24 hJ hK
      · rw [q]
        refine e_tableIn 777 (off := 744) dL_law_33 (by decide) (by decide) (by decide) (by decide) ?_
        exact l_law_18 G hG hL h24 hJ hK
      · rw [q]
        refine e_tableIn 831 (off := 798) dL_law_33 (by decide) (by decide) (by decide) (by decide) ?_
        exact l_law_19 G hG hL h24 hJ hK
      · rw [q]
        refine e_tableIn 854 (off := 821) dL_law_33 (by decide) (by decide) (by decide) (by decide) ?_
        exact l_law_20 G hG hL h24 hJ hK
      · rw [q]
        refine e_tableIn 877 (off := 844) dL_law_33 (by decide) (by decide) (by decide) (by decide) ?_
        exact l_law_21 G hG hL h24 hJ hK
      · rw [q]
        refine e_tableIn 920 (off := 887) dL_law_33 (by decide) (by decide) (by decide) (by decide) ?_
        exact l_law_22 G hG hL h24 hJ hK
      · rw [q]
        refine e_tableIn 953 (off := 920) dL_law_33 (by decide) (by decide) (by decide) (by decide) ?_
        exact l_law_23 G hG hL h24 hJ hK
      · rw [q]
        refine e_tableIn 976 (off := 943) dL_law_33 (by decide) (by decide) (by decide) (by decide) ?_
        exact l_law_24 G hG hL h24 hJ hK
      · rw [q]
        refine e_tableIn 1009 (off := 976) dL_law_33 (by decide) (by decide) (by decide) (by decide) ?_
        exact l_law_25 G hG hL h24 hJ hK
      · rw [q]
        refine e_tableIn 1032 (off := 999) dL_law_33 (by decide) (by decide) (by decide) (by decide) ?_
        exact l_law_26 G hG hL h24 hJ hK
      · rw [q]
        refine e_tableIn 1065 (off := 1032) dL_law_33 (by decide) (by decide) (by decide) (by decide) ?_
        exact l_law_27 G hG hL h24 hJ hK
      · rw [q]
        refine e_tableIn 1088 (off := 1055) dL_law_33 (by decide) (by decide) (by decide) (by decide) ?_
        exact l_law_28 G hG hL h24 hJ hK
      · rw [q]
        refine e_tableIn 1111 (off := 1078) dL_law_33 (by decide) (by decide) (by decide) (by decide) ?_
        exact l_law_29 G hG hL h24 hJ hK
      · rw [q]
        refine e_tableIn 1134 (off := 1101) dL_law_33 (by decide) (by decide) (by decide) (by decide) ?_
        exact l_law_30 G hG hL h24 hJ hK
      · rw [q]
        refine e_tableOut 1148 dL_law_33 (by decide) (by decide) ?_
        exact hK mi ml mr hJ
