theorem zRunF_all {P : Nat → Bool} {f : Nat → Nat} : ∀ (k i j : Nat), i ≤ j → j < zRunF P f k i → P (f j) = true
  | 0, i, j, h1, h2 => by have : zRunF P f 0 i = i := rfl; omega
  | k + 1, i, j, h1, h2 => by
    have e : zRunF P f (k + 1) i = if P (f i) = true then zRunF P f k (i + 1) else i := rfl
    rw [e] at h2
    by_cases q : P (f i) = true
    · rw [if_pos q] at h2
      by_cases z : j = i
      · rw [z]; exact q
      · exact zRunF_all k (i + 1) j (by omega) h2
    · rw [if_neg q] at h2; omega
theorem zWo_c (x : Nat) : zWo x = -9 ∨ ∃ k, k < 6 ∧ x = zWn k := by
  by_cases h : ∃ k, k < 6 ∧ x = zWn k
  · exact Or.inr h
  · exact Or.inl (zWo_n (fun k hk e => h ⟨k, hk, e⟩))
theorem nI_m9 : ∀ k, k < 6 → ¬ nI k = -9 := by decide
theorem nI_i6 : ∀ k, k < 6 → ∀ j, j < 6 → nI k = nI j → k = j := by decide
/-- a token is the k-th name: as the class reads it, as the reference does -/
theorem zSp_i {t : zTx} {b k : Nat} (hb : b ≤ t.1) (hk : k < 6) : zSpB t (zTkA t b) (zTkE t b) k = true ↔ (yTok t b = 1 ∧ zWo (zLwt t b) = nI k) := by
  have tb := zTk_b hb
  have h6 := zNl_le k hk
  have key : zTkK t b = 4 → ∀ j, zTkA t b ≤ j → j < zTkE t b → 97 ≤ t.2 j ∧ t.2 j ≤ 122 := fun h4 j h1 h2 => by
    have hE : zTkE t b = zRun zLtr t (zTkA t b) := by
      unfold zTkK at h4
      unfold zTkE
      by_cases q : t.1 ≤ zTkA t b
      · rw [if_pos q] at h4; cases h4
      · rw [if_neg q] at h4 ⊢
        by_cases q2 : zDig (t.2 (zTkA t b)) = true
        · rw [if_pos q2] at h4; unfold zNumK at h4; split at h4 <;> cases h4
        · rw [if_neg q2] at h4 ⊢
          by_cases q3 : zLtr (t.2 (zTkA t b)) = true
          · rw [if_pos q3]
          · rw [if_neg q3] at h4; split at h4 <;> cases h4
    rw [hE] at h2
    exact zLtr_i.mp (zRunF_all _ _ _ h1 h2)
  constructor
  · intro h
    have h2 := zSpB_i.mp h
    have hl := h2.2 0 (by omega)
    have hn := zNc_l k hk 0 (by omega)
    rw [Nat.add_zero] at hl
    have ha : zTkA t b < t.1 := by omega
    have hd : ¬ zDig (t.2 (zTkA t b)) = true := fun z => by have := zDig_i.mp z; omega
    have hlt : zLtr (t.2 (zTkA t b)) = true := zLtr_i.mpr (by omega)
    have h4 : zTkK t b = 4 := by unfold zTkK; rw [if_neg (by omega), if_neg hd, if_pos hlt]
    have hw : zLwt t b = zWn k := (zSpB_w hk (key h4)).mp h
    have hz : zWo (zLwt t b) = nI k := by rw [hw]; exact zWo_k k hk
    exact ⟨yTok_1.mpr ⟨h4, by rw [hz]; exact nI_m9 k hk⟩, hz⟩
  · rintro ⟨h1, h2⟩
    have h4 := (yTok_1.mp h1).1
    refine (zSpB_w hk (key h4)).mpr ?_
    rcases zWo_c (zLwt t b) with q | ⟨j, hj, q⟩
    · exact absurd (h2.symm.trans q) (nI_m9 k hk)
    · have h3 : zWo (zLwt t b) = nI j := by rw [q]; exact zWo_k j hj
      have e := nI_i6 k hk j hj (h2.symm.trans h3)
      rw [e]
      exact q
theorem zSp_c {t : zTx} {b : Nat} (hb : b ≤ t.1) (h : yTok t b = 1) : ∃ k, k < 6 ∧ zWo (zLwt t b) = nI k ∧ zSpB t (zTkA t b) (zTkE t b) k = true := by
  rcases zWo_c (zLwt t b) with q | ⟨j, hj, q⟩
  · exact absurd q (yTok_1.mp h).2
  · have h3 : zWo (zLwt t b) = nI j := by rw [q]; exact zWo_k j hj
    exact ⟨j, hj, h3, (zSp_i hb hj).mpr ⟨h, h3⟩⟩
theorem zSp_u {t : zTx} {b k j : Nat} (hb : b ≤ t.1) (hk : k < 6) (hj : j < 6) (h : zSpB t (zTkA t b) (zTkE t b) k = true) (h2 : k ≠ j) : ¬ zSpB t (zTkA t b) (zTkE t b) j = true := fun z =>
  h2 (nI_i6 k hk j hj (((zSp_i hb hk).mp h).2.symm.trans ((zSp_i hb hj).mp z).2))
theorem zPl_n {t : zTx} {b : Nat} (h : ¬ zSpB t (zTkA t b) (zTkE t b) 5 = true) : zPlB t b = b ∧ zPlV t b = 0 := ⟨if_neg h, if_neg h⟩
theorem zPl_y {t : zTx} {b : Nat} (h : zSpB t (zTkA t b) (zTkE t b) 5 = true) : zPlB t b = zTkE t b ∧ zPlV t b = 1 := ⟨if_pos h, if_pos h⟩
/-- what is behind an item -/
def zEnd (t : zTx) : Except Nat (zRd × Nat) → Except Nat (zRd × Nat)
  | .ok y => zFin t y.2 y.1
  | .error p => .error p
theorem zEnd_need {t : zTx} {lo hi b : Nat} {k : Nat → Except Nat (zRd × Nat)} : zEnd t (zNeed t lo hi b k) = zNeed t lo hi b (fun x => zEnd t (k x)) := by
  by_cases c : zTkK t b = 3 ∧ lo ≤ zTkN t b ∧ zTkN t b < hi
  · rw [zNeed_y c, zNeed_y c]
  · rw [zNeed_n c, zNeed_n c]; rfl
theorem zEnd_1 {t : zTx} {s : zRd} {e : Nat} : zEnd t (zX1 t s e) = zItNear t s e := by
  unfold zX1 zItNear
  rw [zEnd_need]
  congr 1
  funext x
  by_cases c : (zTkK t (zTkE t e) = 3 ∧ 0 ≤ zTkN t (zTkE t e) ∧ zTkN t (zTkE t e) < s.1 0 0) ∧ ¬ zTkN t (zTkE t e) = x
  · rw [if_pos c, if_pos c, zEnd_need]; rfl
  · rw [if_neg c, if_neg c]; rfl
theorem zEnd_2 {t : zTx} {s : zRd} {a e : Nat} (h : s.2.1 = 0) : zEnd t (zX2 t s e) = zItLaw t s a e := by
  unfold zX2 zItLaw
  rw [if_pos h, zEnd_need]
  congr 1
  funext x
  rw [zEnd_need]
  congr 1
  funext y
  rw [zEnd_need]
  rfl
theorem zEnd_3 {t : zTx} {s : zRd} {a e : Nat} (h : s.2.2 = 0) : zEnd t (zX3 t s e) = zItStart t s a e := by
  unfold zX3 zItStart
  rw [if_pos h, zEnd_need]
  rfl
theorem zEnd_4 {t : zTx} {s : zRd} {a e : Nat} (h : s.1 0 1 < 5) : zEnd t (zX4 t s e) = zItWord t s a e := by
  unfold zX4 zItWord
  rw [if_pos h, zEnd_need]
  congr 1
  funext x
  rw [zEnd_need]
  congr 1
  funext y
  rw [zEnd_need]
  rfl
theorem zEnd_0 {t : zTx} {s : zRd} {a e : Nat} (h : s.1 0 0 < 3) : zEnd t (zX0 s e) = zItPlace t s a e := by
  unfold zItPlace
  rw [if_pos h]
  rfl
/-- what readsItem reads -/
def zXk (t : zTx) (s : zRd) (k e : Nat) : Except Nat (zRd × Nat) := if k = 0 then zX0 s e else if k = 1 then zX1 t s e else if k = 2 then zX2 t s e else if k = 3 then zX3 t s e else zX4 t s e
theorem zItem_y {t : zTx} {s : zRd} {b k : Nat} (hb : b ≤ t.1) (hk : k < 6) (h : zSpB t (zTkA t b) (zTkE t b) k = true) (hm : zMayP s k) : zItem t s b = zEnd t (zXk t s k (zTkE t b)) := by
  unfold zItem zXk
  have n0 : ∀ j, j < 6 → k ≠ j → ¬ zSpB t (zTkA t b) (zTkE t b) j = true := fun j hj e => zSp_u hb hk hj h e
  unfold zMayP at hm
  have h6 : k = 0 ∨ k = 1 ∨ k = 2 ∨ k = 3 ∨ k = 4 ∨ k = 5 := by omega
  rcases h6 with q | q | q | q | q | q <;> subst q
  · rw [if_pos h, if_pos rfl]; exact (zEnd_0 (by omega)).symm
  · rw [if_neg (n0 0 (by decide) (by decide)), if_pos h, if_neg (by decide), if_pos rfl]; exact zEnd_1.symm
  · rw [if_neg (n0 0 (by decide) (by decide)), if_neg (n0 1 (by decide) (by decide)), if_pos h, if_neg (by decide), if_neg (by decide), if_pos rfl]; exact (zEnd_2 (by omega)).symm
  · rw [if_neg (n0 0 (by decide) (by decide)), if_neg (n0 1 (by decide) (by decide)), if_neg (n0 2 (by decide) (by decide)), if_pos h, if_neg (by decide), if_neg (by decide), if_neg (by decide), if_pos rfl]; exact (zEnd_3 (by omega)).symm
  · rw [if_neg (n0 0 (by decide) (by decide)), if_neg (n0 1 (by decide) (by decide)), if_neg (n0 2 (by decide) (by decide)), if_neg (n0 3 (by decide) (by decide)), if_pos h, if_neg (by decide), if_neg (by decide), if_neg (by decide), if_neg (by decide)]; exact (zEnd_4 (by omega)).symm
  · omega
theorem zItem_n {t : zTx} {s : zRd} {b : Nat} (hb : b ≤ t.1) (hm : ∀ k, k < 6 → zSpB t (zTkA t b) (zTkE t b) k = true → ¬ zMayP s k) : zItem t s b = .error (zTkA t b) := by
  unfold zItem
  unfold zMayP at hm
  by_cases c0 : zSpB t (zTkA t b) (zTkE t b) 0 = true
  · have := hm 0 (by decide) c0
    rw [if_pos c0]; unfold zItPlace; rw [if_neg (by omega)]
  · rw [if_neg c0]
    by_cases c1 : zSpB t (zTkA t b) (zTkE t b) 1 = true
    · have := hm 1 (by decide) c1
      omega
    · rw [if_neg c1]
      by_cases c2 : zSpB t (zTkA t b) (zTkE t b) 2 = true
      · have := hm 2 (by decide) c2
        rw [if_pos c2]; unfold zItLaw; rw [if_neg (by omega)]
      · rw [if_neg c2]
        by_cases c3 : zSpB t (zTkA t b) (zTkE t b) 3 = true
        · have := hm 3 (by decide) c3
          rw [if_pos c3]; unfold zItStart; rw [if_neg (by omega)]
        · rw [if_neg c3]
          by_cases c4 : zSpB t (zTkA t b) (zTkE t b) 4 = true
          · have := hm 4 (by decide) c4
            rw [if_pos c4]; unfold zItWord; rw [if_neg (by omega)]
          · rw [if_neg c4]
set_option maxHeartbeats 4000000 in
set_option maxRecDepth 100000 in
theorem k_X8_readsItem_4 (G : zG) {D E : Nat} {t : zTx} {mi : zFi} {ml : zFl} {mr : zFr} (hr : zRf mr D E) (htw : zTxW t) (ht : zYt mi t) {s : zRd} {e : Nat} (h : zSq mi t (.ok e)) (hd : zYdr mi s) (hw : zRdW s) (hw5 : s.1 0 1 < 5) : zMet G 6 yX8_readsItem cX8_readsItem 5 none [.ref 224, .int (nI 4)] 238 mi ml mr 238 (zPv fun u b c => (zSd u t (zX4 t s e) ∧ zFrR u mi) ∧ b = ml ∧ c = mr) := by
  have hP3 := hw.1.1.1
  have hW5 := hw.1.1.2.1
  refine z_intro ([.ref 224, .int (nI 4), zx, zx, zx]) (by decide) rfl (Nat.le_of_ble_eq_true rfl) ?_
  refine e_iload_n 1 dX8_readsItem_0 rfl rfl ?_
  refine e_if_neN 17 4 dX8_readsItem_1 (by decide) rfl (by decide) (fun h1 => ?_) (fun h1 => ?_)
  · refine e_iload_n 18 dX8_readsItem_17 rfl rfl ?_
    refine e_iconst 19 hic_1 dX8_readsItem_18 rfl ?_
    refine e_icmp_neN 126 22 dX8_readsItem_19 (by decide) rfl (by decide) (by decide) (fun h19 => ?_) (fun h19 => ?_)
    · refine e_iload_n 127 dX8_readsItem_126 rfl rfl ?_
      refine e_iconst 128 hic_2 dX8_readsItem_127 rfl ?_
      refine e_icmp_neN 180 131 dX8_readsItem_128 (by decide) rfl (by decide) (by decide) (fun h128 => ?_) (fun h128 => ?_)
      · refine e_iload_n 181 dX8_readsItem_180 rfl rfl ?_
        refine e_iconst 182 hic_3 dX8_readsItem_181 rfl ?_
        refine e_icmp_neN 207 185 dX8_readsItem_182 (by decide) rfl (by decide) (by decide) (fun h182 => ?_) (fun h182 => ?_)
        · refine e_bipush 209 hbi_20 dX8_readsItem_207 rfl ?_
          refine e_iconst 210 hic_4 dX8_readsItem_209 rfl ?_
          refine e_aload_n 211 dX8_readsItem_210 rfl rfl ?_
          refine e_geti 214 dX8_readsItem_211 lf_X8_116 rfl rfl rfl (by decide) hd.1.2 ?_
          first | refine e_imulN 215 dX8_readsItem_214 rfl ?_ | refine e_imul 215 dX8_readsItem_214 rfl ?_
          first | refine e_iaddN 216 dX8_readsItem_215 rfl ?_ | refine e_iadd 216 dX8_readsItem_215 rfl ?_
          refine e_istore_n 217 dX8_readsItem_216 rfl (by decide) (zst1_2 rfl) ?_
          refine e_aload_n 218 dX8_readsItem_217 rfl rfl ?_
          refine e_getr 221 dX8_readsItem_218 lf_X8_32 rfl rfl rfl (by decide) hr.yw ?_
          refine e_iload_n 222 dX8_readsItem_221 rfl rfl ?_
          refine e_aload_n 223 dX8_readsItem_222 rfl rfl ?_
          refine e_iconst 224 hic_0 dX8_readsItem_223 rfl ?_
          refine e_iconst 225 hic_3 dX8_readsItem_224 rfl ?_
          refine c_Vi 228 (ci := 8) dX8_readsItem_225 (k_X8_number G hr htw (P9 := 4) h ht (zHc (hi := 3) (by decide) (by decide))) lm_X8_126 zi_yX8_number zs_yX8_number rfl rfl (by decide) rfl rfl rfl (Nat.le_of_ble_eq_true rfl) (Nat.le_of_ble_eq_true rfl) (Nat.le_of_ble_eq_true rfl) (by exact Nat.le_refl _) (by exact Nat.le_refl _) ?_
          rintro x1 u1 _ _ ⟨rfl, s1, g1, rfl, rfl⟩
          have d1 := hd.g g1
          have t1 := g1.x (zKb_n (by decide)) ht
          have f1 := g1.fr.t (zFrR.r mi)
          refine e_iast 229 dX8_readsItem_228 rfl rfl (by decide) rfl (by show 20 + 4 * s.1 0 1 < 40; omega) ?_
          have s1 := s1.po (q := 232) (k := 20 + 4 * s.1 0 1) (x := nI (zNv t 0 4 (.ok e))) (by decide)
          have d1 := d1.far (k := 20 + 4 * s.1 0 1) (x := nI (zNv t 0 4 (.ok e))) (by omega)
          have f1 := (zFrR.p232 (u := u1) (k := 20 + 4 * s.1 0 1) (v := nI (zNv t 0 4 (.ok e))) (by omega)).t f1
          have t1 := f1.y ht
          have b0 : (zp u1 232 (20 + 4 * s.1 0 1) (nI (zNv t 0 4 (.ok e)))) 232 (20 + 4 * s.1 0 1) = nI (zNv t 0 4 (.ok e)) := zp_s _ _ _ _
          generalize (zp u1 232 (20 + 4 * s.1 0 1) (nI (zNv t 0 4 (.ok e)))) = w1 at s1 d1 f1 t1 b0 ⊢
          refine e_aload_n 230 dX8_readsItem_229 rfl rfl ?_
          refine e_getr 233 dX8_readsItem_230 lf_X8_32 rfl rfl rfl (by decide) hr.yw ?_
          refine e_iload_n 234 dX8_readsItem_233 rfl rfl ?_
          refine e_iconst 235 hic_1 dX8_readsItem_234 rfl ?_
          first | refine e_iaddN 236 dX8_readsItem_235 rfl ?_ | refine e_iadd 236 dX8_readsItem_235 rfl ?_
          refine e_aload_n 237 dX8_readsItem_236 rfl rfl ?_
          refine e_iconst 238 hic_0 dX8_readsItem_237 rfl ?_
          refine e_bipush 240 hbi_90 dX8_readsItem_238 rfl ?_
          refine c_Vi 243 (ci := 8) dX8_readsItem_240 (k_X8_number G hr htw (P9 := 91) s1 t1 (zHc (hi := 90) (by decide) (by decide))) lm_X8_126 zi_yX8_number zs_yX8_number rfl rfl (by decide) rfl rfl rfl (Nat.le_of_ble_eq_true rfl) (Nat.le_of_ble_eq_true rfl) (Nat.le_of_ble_eq_true rfl) (by exact Nat.le_refl _) (by exact Nat.le_refl _) ?_
          rintro x2 u2 _ _ ⟨rfl, s2, g2, rfl, rfl⟩
          have d2 := d1.g g2
          have t2 := g2.x (zKb_n (by decide)) t1
          have f2 := g2.fr.t f1
          have b0 := (congrFun (g2.1 232 (by decide)) _).trans b0
          refine e_iast 244 dX8_readsItem_243 rfl rfl (by decide) rfl (by show 20 + 4 * s.1 0 1 + 1 < 40; omega) ?_
          have s2 := s2.po (q := 232) (k := 20 + 4 * s.1 0 1 + 1) (x := nI (zNv t 0 91 (zNx t 0 4 (.ok e)))) (by decide)
          have d2 := d2.far (k := 20 + 4 * s.1 0 1 + 1) (x := nI (zNv t 0 91 (zNx t 0 4 (.ok e)))) (by omega)
          have f2 := (zFrR.p232 (u := u2) (k := 20 + 4 * s.1 0 1 + 1) (v := nI (zNv t 0 91 (zNx t 0 4 (.ok e)))) (by omega)).t f2
          have t2 := f2.y ht
          have b1 : (zp u2 232 (20 + 4 * s.1 0 1 + 1) (nI (zNv t 0 91 (zNx t 0 4 (.ok e))))) 232 (20 + 4 * s.1 0 1 + 1) = nI (zNv t 0 91 (zNx t 0 4 (.ok e))) := zp_s _ _ _ _
          have b0 : (zp u2 232 (20 + 4 * s.1 0 1 + 1) (nI (zNv t 0 91 (zNx t 0 4 (.ok e))))) 232 (20 + 4 * s.1 0 1) = nI (zNv t 0 4 (.ok e)) := (zp_k _ _ (by omega)).trans b0
          generalize (zp u2 232 (20 + 4 * s.1 0 1 + 1) (nI (zNv t 0 91 (zNx t 0 4 (.ok e))))) = w2 at s2 d2 f2 t2 b0 b1 ⊢
          refine e_aload_n 245 dX8_readsItem_244 rfl rfl ?_
          refine e_getr 248 dX8_readsItem_245 lf_X8_32 rfl rfl rfl (by decide) hr.yw ?_
          refine e_iload_n 249 dX8_readsItem_248 rfl rfl ?_
          refine e_iconst 250 hic_2 dX8_readsItem_249 rfl ?_
          first | refine e_iaddN 251 dX8_readsItem_250 rfl ?_ | refine e_iadd 251 dX8_readsItem_250 rfl ?_
          refine e_aload_n 252 dX8_readsItem_251 rfl rfl ?_
          refine e_iconst 253 hic_0 dX8_readsItem_252 rfl ?_
          refine e_aload_n 254 dX8_readsItem_253 rfl rfl ?_
          refine e_geti 257 dX8_readsItem_254 lf_X8_113 rfl rfl rfl (by decide) d2.1.1 ?_
          refine e_iconst 258 hic_1 dX8_readsItem_257 rfl ?_
          refine e_isub 259 dX8_readsItem_258 rfl ?_
          refine c_Vi 262 (ci := 8) dX8_readsItem_259 (k_X8_number G hr htw (P9 := s.1 0 0) s2 t2 (zHp hP3)) lm_X8_126 zi_yX8_number zs_yX8_number rfl rfl (by decide) rfl rfl rfl (Nat.le_of_ble_eq_true rfl) (Nat.le_of_ble_eq_true rfl) (Nat.le_of_ble_eq_true rfl) (by exact Nat.le_refl _) (by exact Nat.le_refl _) ?_
          rintro x3 u3 _ _ ⟨rfl, s3, g3, rfl, rfl⟩
          have d3 := d2.g g3
          have t3 := g3.x (zKb_n (by decide)) t2
          have f3 := g3.fr.t f2
          have b0 := (congrFun (g3.1 232 (by decide)) _).trans b0
          have b1 := (congrFun (g3.1 232 (by decide)) _).trans b1
          refine e_iast 263 dX8_readsItem_262 rfl rfl (by decide) rfl (by show 20 + 4 * s.1 0 1 + 2 < 40; omega) ?_
          have s3 := s3.po (q := 232) (k := 20 + 4 * s.1 0 1 + 2) (x := nI (zNv t 0 (s.1 0 0) (zNx t 0 91 (zNx t 0 4 (.ok e))))) (by decide)
          have d3 := d3.far (k := 20 + 4 * s.1 0 1 + 2) (x := nI (zNv t 0 (s.1 0 0) (zNx t 0 91 (zNx t 0 4 (.ok e))))) (by omega)
          have f3 := (zFrR.p232 (u := u3) (k := 20 + 4 * s.1 0 1 + 2) (v := nI (zNv t 0 (s.1 0 0) (zNx t 0 91 (zNx t 0 4 (.ok e))))) (by omega)).t f3
          have t3 := f3.y ht
          have b2 : (zp u3 232 (20 + 4 * s.1 0 1 + 2) (nI (zNv t 0 (s.1 0 0) (zNx t 0 91 (zNx t 0 4 (.ok e)))))) 232 (20 + 4 * s.1 0 1 + 2) = nI (zNv t 0 (s.1 0 0) (zNx t 0 91 (zNx t 0 4 (.ok e)))) := zp_s _ _ _ _
          have b0 : (zp u3 232 (20 + 4 * s.1 0 1 + 2) (nI (zNv t 0 (s.1 0 0) (zNx t 0 91 (zNx t 0 4 (.ok e)))))) 232 (20 + 4 * s.1 0 1) = nI (zNv t 0 4 (.ok e)) := (zp_k _ _ (by omega)).trans b0
          have b1 : (zp u3 232 (20 + 4 * s.1 0 1 + 2) (nI (zNv t 0 (s.1 0 0) (zNx t 0 91 (zNx t 0 4 (.ok e)))))) 232 (20 + 4 * s.1 0 1 + 1) = nI (zNv t 0 91 (zNx t 0 4 (.ok e))) := (zp_k _ _ (by omega)).trans b1
          generalize (zp u3 232 (20 + 4 * s.1 0 1 + 2) (nI (zNv t 0 (s.1 0 0) (zNx t 0 91 (zNx t 0 4 (.ok e)))))) = w3 at s3 d3 f3 t3 b0 b1 b2 ⊢
          refine e_aload_n 264 dX8_readsItem_263 rfl rfl ?_
          refine e_getr 267 dX8_readsItem_264 lf_X8_32 rfl rfl rfl (by decide) hr.yw ?_
          refine e_iload_n 268 dX8_readsItem_267 rfl rfl ?_
          refine e_iconst 269 hic_3 dX8_readsItem_268 rfl ?_
          first | refine e_iaddN 270 dX8_readsItem_269 rfl ?_ | refine e_iadd 270 dX8_readsItem_269 rfl ?_
          refine e_iconst 271 hic_0 dX8_readsItem_270 rfl ?_
          refine e_iast 272 dX8_readsItem_271 rfl rfl (by decide) rfl (by show 20 + 4 * s.1 0 1 + 3 < 40; omega) ?_
          have s3 := s3.po (q := 232) (k := 20 + 4 * s.1 0 1 + 3) (x := nI 0) (by decide)
          have d3 := d3.far (k := 20 + 4 * s.1 0 1 + 3) (x := nI 0) (by omega)
          have f3 := (zFrR.p232 (u := w3) (k := 20 + 4 * s.1 0 1 + 3) (v := nI 0) (by omega)).t f3
          have t3 := f3.y ht
          have b3 : (zp w3 232 (20 + 4 * s.1 0 1 + 3) (nI 0)) 232 (20 + 4 * s.1 0 1 + 3) = nI 0 := zp_s _ _ _ _
          have b0 : (zp w3 232 (20 + 4 * s.1 0 1 + 3) (nI 0)) 232 (20 + 4 * s.1 0 1) = nI (zNv t 0 4 (.ok e)) := (zp_k _ _ (by omega)).trans b0
          have b1 : (zp w3 232 (20 + 4 * s.1 0 1 + 3) (nI 0)) 232 (20 + 4 * s.1 0 1 + 1) = nI (zNv t 0 91 (zNx t 0 4 (.ok e))) := (zp_k _ _ (by omega)).trans b1
          have b2 : (zp w3 232 (20 + 4 * s.1 0 1 + 3) (nI 0)) 232 (20 + 4 * s.1 0 1 + 2) = nI (zNv t 0 (s.1 0 0) (zNx t 0 91 (zNx t 0 4 (.ok e)))) := (zp_k _ _ (by omega)).trans b2
          generalize (zp w3 232 (20 + 4 * s.1 0 1 + 3) (nI 0)) = w4 at s3 d3 f3 t3 b0 b1 b2 b3 ⊢
          obtain ⟨r3, er⟩ : ∃ r3, zNx t 0 (s.1 0 0) (zNx t 0 91 (zNx t 0 4 (.ok e))) = r3 := ⟨_, rfl⟩
          rw [er] at s3
          rcases r3 with p | b
          · refine e_aload_n 273 dX8_readsItem_272 rfl rfl ?_
            refine c_Vqi 276 (ci := 8) dX8_readsItem_273 (k_X8_isWell_n G hr s3.1 (by have := htw.1; have := s3.2; omega)) lm_X8_102 zi_yX8_isWell zs_yX8_isWell rfl rfl (by decide) rfl rfl rfl (Nat.le_of_ble_eq_true rfl) (Nat.le_of_ble_eq_true rfl) (Nat.le_of_ble_eq_true rfl) (by exact Nat.le_refl _) (by exact Nat.le_refl _) ?_
            refine e_if_eq 308 279 dX8_readsItem_276 (by decide) rfl (fun h276 => ?_) (fun h276 => ?_)
            · refine e_aload_n 309 dX8_readsItem_308 rfl rfl ?_
              refine e_dup 310 dX8_readsItem_309 rfl rfl ?_
              refine e_geti 313 dX8_readsItem_310 lf_X8_116 rfl rfl rfl (by decide) d3.1.2 ?_
              refine e_iconst 314 hic_1 dX8_readsItem_313 rfl ?_
              first | refine e_iaddN 315 dX8_readsItem_314 rfl ?_ | refine e_iadd 315 dX8_readsItem_314 rfl ?_
              refine e_puti 318 dX8_readsItem_315 lf_X8_116 rfl rfl rfl rfl rfl (by decide) ?_
              refine e_vreturn dX8_readsItem_318 rfl ?_
              exact ⟨rfl, ⟨zSd_wordE er (s3.p4 (by decide)), (zFrR.p224 (by decide)).t f3⟩, rfl, rfl⟩
            · exact absurd rfl h276
          · refine e_aload_n 273 dX8_readsItem_272 rfl rfl ?_
            refine c_Vqi 276 (ci := 8) dX8_readsItem_273 (k_X8_isWell_y G hr s3.1) lm_X8_102 zi_yX8_isWell zs_yX8_isWell rfl rfl (by decide) rfl rfl rfl (Nat.le_of_ble_eq_true rfl) (Nat.le_of_ble_eq_true rfl) (Nat.le_of_ble_eq_true rfl) (by exact Nat.le_refl _) (by exact Nat.le_refl _) ?_
            refine e_if_eq 308 279 dX8_readsItem_276 (by decide) rfl (fun h276 => ?_) (fun h276 => ?_)
            · exact absurd h276 (by decide)
            · refine e_aload_n 280 dX8_readsItem_279 rfl rfl ?_
              refine e_geti 283 dX8_readsItem_280 lf_X8_89 rfl rfl rfl (by decide) s3.2.1.2.2.1 ?_
              refine e_iconst 284 hic_1 dX8_readsItem_283 rfl ?_
              refine e_icmp_neN 308 287 dX8_readsItem_284 (by decide) rfl (by have := yTok_lt (t := t) (b := b); omega) (by omega) (fun h284 => ?_) (fun h284 => ?_)
              · have hpl : ¬ zSpB t (zTkA t b) (zTkE t b) 5 = true := fun z => h284 ((zSp_i s3.2.2 (by decide)).mp z).1
                have s5 := s3
                have d5 := d3
                have f5 := f3
                refine e_aload_n 309 dX8_readsItem_308 rfl rfl ?_
                refine e_dup 310 dX8_readsItem_309 rfl rfl ?_
                refine e_geti 313 dX8_readsItem_310 lf_X8_116 rfl rfl rfl (by decide) d5.1.2 ?_
                refine e_iconst 314 hic_1 dX8_readsItem_313 rfl ?_
                first | refine e_iaddN 315 dX8_readsItem_314 rfl ?_ | refine e_iadd 315 dX8_readsItem_314 rfl ?_
                refine e_puti 318 dX8_readsItem_315 lf_X8_116 rfl rfl rfl rfl rfl (by decide) ?_
                refine e_vreturn dX8_readsItem_318 rfl ?_
                first
                  | (have e0 := zPl_n hpl
                     exact ⟨rfl, ⟨zSd_wordO er (by rw [e0.1]; exact s5.p4 (by decide)) (by rw [e0.2]; exact d5.w b0 b1 b2 b3), (zFrR.p224 (by decide)).t f5⟩, rfl, rfl⟩)
                  | (have e0 := zPl_y hpl
                     exact ⟨rfl, ⟨zSd_wordO er (by rw [e0.1]; exact s5.p4 (by decide)) (by rw [e0.2]; exact d5.w b0 b1 b2 b3), (zFrR.p224 (by decide)).t f5⟩, rfl, rfl⟩)
              · have hK := (yTok_1.mp h284).1
                refine e_aload_n 288 dX8_readsItem_287 rfl rfl ?_
                refine e_geti 291 dX8_readsItem_288 lf_X8_96 rfl rfl rfl (by decide) (s3.2.1.2.2.2.2 hK) ?_
                refine e_iconst 292 hic_5 dX8_readsItem_291 rfl ?_
                refine e_icmp_ne 308 295 dX8_readsItem_292 (by decide) rfl (fun h292 => ?_) (fun h292 => ?_)
                · have hpl : ¬ zSpB t (zTkA t b) (zTkE t b) 5 = true := fun z => h292 ((zSp_i s3.2.2 (by decide)).mp z).2
                  have s5 := s3
                  have d5 := d3
                  have f5 := f3
                  refine e_aload_n 309 dX8_readsItem_308 rfl rfl ?_
                  refine e_dup 310 dX8_readsItem_309 rfl rfl ?_
                  refine e_geti 313 dX8_readsItem_310 lf_X8_116 rfl rfl rfl (by decide) d5.1.2 ?_
                  refine e_iconst 314 hic_1 dX8_readsItem_313 rfl ?_
                  first | refine e_iaddN 315 dX8_readsItem_314 rfl ?_ | refine e_iadd 315 dX8_readsItem_314 rfl ?_
                  refine e_puti 318 dX8_readsItem_315 lf_X8_116 rfl rfl rfl rfl rfl (by decide) ?_
                  refine e_vreturn dX8_readsItem_318 rfl ?_
                  first
                    | (have e0 := zPl_n hpl
                       exact ⟨rfl, ⟨zSd_wordO er (by rw [e0.1]; exact s5.p4 (by decide)) (by rw [e0.2]; exact d5.w b0 b1 b2 b3), (zFrR.p224 (by decide)).t f5⟩, rfl, rfl⟩)
                    | (have e0 := zPl_y hpl
                       exact ⟨rfl, ⟨zSd_wordO er (by rw [e0.1]; exact s5.p4 (by decide)) (by rw [e0.2]; exact d5.w b0 b1 b2 b3), (zFrR.p224 (by decide)).t f5⟩, rfl, rfl⟩)
                · have hpl := (zSp_i s3.2.2 (by decide)).mpr ⟨h284, h292⟩
                  refine e_aload_n 296 dX8_readsItem_295 rfl rfl ?_
                  refine e_getr 299 dX8_readsItem_296 lf_X8_32 rfl rfl rfl (by decide) hr.yw ?_
                  refine e_iload_n 300 dX8_readsItem_299 rfl rfl ?_
                  refine e_iconst 301 hic_3 dX8_readsItem_300 rfl ?_
                  first | refine e_iaddN 302 dX8_readsItem_301 rfl ?_ | refine e_iadd 302 dX8_readsItem_301 rfl ?_
                  refine e_iconst 303 hic_1 dX8_readsItem_302 rfl ?_
                  refine e_iast 304 dX8_readsItem_303 rfl rfl (by decide) rfl (by show 20 + 4 * s.1 0 1 + 3 < 40; omega) ?_
                  have s4 := s3.po (q := 232) (k := 20 + 4 * s.1 0 1 + 3) (x := nI 1) (by decide)
                  have d4 := d3.far (k := 20 + 4 * s.1 0 1 + 3) (x := nI 1) (by omega)
                  have f4 := (zFrR.p232 (u := w4) (k := 20 + 4 * s.1 0 1 + 3) (v := nI 1) (by omega)).t f3
                  have t4 := f4.y ht
                  have b3 : (zp w4 232 (20 + 4 * s.1 0 1 + 3) (nI 1)) 232 (20 + 4 * s.1 0 1 + 3) = nI 1 := zp_s _ _ _ _
                  have b0 : (zp w4 232 (20 + 4 * s.1 0 1 + 3) (nI 1)) 232 (20 + 4 * s.1 0 1) = nI (zNv t 0 4 (.ok e)) := (zp_k _ _ (by omega)).trans b0
                  have b1 : (zp w4 232 (20 + 4 * s.1 0 1 + 3) (nI 1)) 232 (20 + 4 * s.1 0 1 + 1) = nI (zNv t 0 91 (zNx t 0 4 (.ok e))) := (zp_k _ _ (by omega)).trans b1
                  have b2 : (zp w4 232 (20 + 4 * s.1 0 1 + 3) (nI 1)) 232 (20 + 4 * s.1 0 1 + 2) = nI (zNv t 0 (s.1 0 0) (zNx t 0 91 (zNx t 0 4 (.ok e)))) := (zp_k _ _ (by omega)).trans b2
                  generalize (zp w4 232 (20 + 4 * s.1 0 1 + 3) (nI 1)) = w5 at s4 d4 f4 t4 b0 b1 b2 b3 ⊢
                  refine e_aload_n 305 dX8_readsItem_304 rfl rfl ?_
                  refine c_Vv 308 (ci := 8) dX8_readsItem_305 (k_X8_advances G hr htw t4 s4.2.1.1 (zTk_b s4.2.2).2.2.2.1) lm_X8_106 zi_yX8_advances zs_yX8_advances rfl rfl (by decide) rfl rfl rfl (Nat.le_of_ble_eq_true rfl) (Nat.le_of_ble_eq_true rfl) (Nat.le_of_ble_eq_true rfl) (by exact Nat.le_refl _) (by exact Nat.le_refl _) ?_
                  rintro u5 _ _ ⟨y5, g5, rfl, rfl⟩
                  have s5 : zSq u5 t (.ok (zTkE t b)) := ⟨(g5.2 12 (zKa_n (by decide))).trans s4.1, y5, (zTk_b s4.2.2).2.2.2.1⟩
                  have d5 := d4.g g5.ab
                  have f5 := g5.ab.fr.t f4
                  have b0 := (congrFun (g5.1 232 (by decide)) _).trans b0
                  have b1 := (congrFun (g5.1 232 (by decide)) _).trans b1
                  have b2 := (congrFun (g5.1 232 (by decide)) _).trans b2
                  have b3 := (congrFun (g5.1 232 (by decide)) _).trans b3
                  refine e_aload_n 309 dX8_readsItem_308 rfl rfl ?_
                  refine e_dup 310 dX8_readsItem_309 rfl rfl ?_
                  refine e_geti 313 dX8_readsItem_310 lf_X8_116 rfl rfl rfl (by decide) d5.1.2 ?_
                  refine e_iconst 314 hic_1 dX8_readsItem_313 rfl ?_
                  first | refine e_iaddN 315 dX8_readsItem_314 rfl ?_ | refine e_iadd 315 dX8_readsItem_314 rfl ?_
                  refine e_puti 318 dX8_readsItem_315 lf_X8_116 rfl rfl rfl rfl rfl (by decide) ?_
                  refine e_vreturn dX8_readsItem_318 rfl ?_
                  first
                    | (have e0 := zPl_n hpl
                       exact ⟨rfl, ⟨zSd_wordO er (by rw [e0.1]; exact s5.p4 (by decide)) (by rw [e0.2]; exact d5.w b0 b1 b2 b3), (zFrR.p224 (by decide)).t f5⟩, rfl, rfl⟩)
                    | (have e0 := zPl_y hpl
                       exact ⟨rfl, ⟨zSd_wordO er (by rw [e0.1]; exact s5.p4 (by decide)) (by rw [e0.2]; exact d5.w b0 b1 b2 b3), (zFrR.p224 (by decide)).t f5⟩, rfl, rfl⟩)
        · exact absurd h182 (by decide)
      · exact absurd h128 (by decide)
    · exact absurd h19 (by decide)
  · exact absurd h1 (by decide)

set_option maxHeartbeats 4000000 in
set_option maxRecDepth 100000 in
theorem k_X8_readsItem (G : zG) {D E : Nat} {t : zTx} {mi : zFi} {ml : zFl} {mr : zFr} (hr : zRf mr D E) (htw : zTxW t) (ht : zYt mi t) {s : zRd} {e : Nat} (h : zSq mi t (.ok e)) (hd : zYdr mi s) (hw : zRdW s) {k : Nat} (hk : k < 6) (hm : zMayP s k) : zMet G 6 yX8_readsItem cX8_readsItem 5 none [.ref 224, .int (nI k)] 238 mi ml mr 238 (zPv fun u b c => (zSd u t (zXk t s k e) ∧ zFrR u mi) ∧ b = ml ∧ c = mr) := by
  unfold zMayP at hm
  unfold zXk
  have h5 : k = 0 ∨ k = 1 ∨ k = 2 ∨ k = 3 ∨ k = 4 := by omega
  rcases h5 with q | q | q | q | q <;> subst q
  · exact k_X8_readsItem_0 G hr htw ht h hd hw
  · exact k_X8_readsItem_1 G hr htw ht h hd hw
  · exact k_X8_readsItem_2 G hr htw ht h hd hw
  · exact k_X8_readsItem_3 G hr htw ht h hd hw
  · exact k_X8_readsItem_4 G hr htw ht h hd hw (by omega)

