def zG2 (u : zFi) (Λ : zLd) (yv : Nat → Nat) (p : Nat) : Prop := ∀ q, q < p → u 235 q = nI (zHear (Λ 1) yv q (Λ 0 0))
theorem zG2.st {u u2 : zFi} {Λ : zLd} {yv : Nat → Nat} {p x : Nat} (h : zG2 u Λ yv p) (ho : ∀ j, j ≠ p → u2 235 j = u 235 j) (hx : x = zHear (Λ 1) yv p (Λ 0 0)) : zG2 (zp u2 235 p (nI x)) Λ yv (p + 1) := fun q hq => by
  by_cases e : q = p
  · subst e; rw [zp_s, hx]
  · rw [zp_k _ _ e, ho q e]; exact h q (by omega)
theorem zHT_le {Λ : zLd} {yv : Nat → Nat} {p : Nat} (hW : zLandW Λ) (hp : p < Λ 0 0) (hyl : ∀ q, q < Λ 0 0 → yv q ≤ 1000) : zsum (zHearT (Λ 1) yv p) 0 (Λ 0 0) ≤ 2700 := by
  have hP3 := hW.1.1
  have h := zsum_le (f := zHearT (Λ 1) yv p) (M := 900) (Λ 0 0) 0 (fun q _ h2 => by
    unfold zHearT
    split
    · exact Nat.zero_le _
    · have g1 := hW.2.1 (3 * p + q) (by omega)
      have g2 := hyl q (by omega)
      have g3 := Nat.mul_le_mul g1 g2
      omega)
  omega
set_option maxHeartbeats 4000000 in
set_option maxRecDepth 100000 in
theorem l_X8_gw2 (G : zG) (d : Nat) (Q : zQ) {v4 v5 : Value} {D E : Nat} {Λ : zLd} {mi : zFi} {ml : zFl} {mr : zFr} (hr : zRf mr D E) (hd0 : zYd mi Λ) (hW : zLandW Λ) {w : Nat} {yv : Nat → Nat} (hyv : ∀ q, q < Λ 0 0 → mi 236 q = nI (yv q)) (hyl : ∀ q, q < Λ 0 0 → yv q ≤ 1000) : ∀ (k p : Nat) (u : zFi) (v3 : Value), p + k = Λ 0 0 → zOnE u mi → zG2 u Λ yv p → (∀ u2 v3, zOnE u2 mi → zG2 u2 Λ yv (Λ 0 0) → zE G (zRm (d + 2) 238 238) (zQm G 238 238 Q) yX8_goesWord.cls yX8_goesWord.name cX8_goesWord 6 none 238 172 [.ref 224, .int (nI w), .int (nI (Λ 0 0)), v3, v4, v5] [] 238 u2 ml mr) → zE G (zRm (d + 2) 238 238) (zQm G 238 238 Q) yX8_goesWord.cls yX8_goesWord.name cX8_goesWord 6 none 238 62 [.ref 224, .int (nI w), .int (nI p), v3, v4, v5] [] 238 u ml mr := by
  intro k
  induction k with
  | zero =>
    intro p u v3 h hf hI hQ
    have hd := hd0.w hf.w
    have hP3 := hW.1.1
    refine e_iload_n 63 dX8_goesWord_62 rfl rfl ?_
    refine e_aload_n 64 dX8_goesWord_63 rfl rfl ?_
    refine e_geti 67 dX8_goesWord_64 lf_X8_138 rfl rfl rfl (by decide) hd.1.1 ?_
    refine e_icmp_geN 172 70 dX8_goesWord_67 (by decide) rfl (by omega) (by omega) (fun h67 => ?_) (fun h67 => ?_)
    · have e : p = Λ 0 0 := by omega
      subst e
      exact hQ u _ hf hI
    · exact absurd h67 (by omega)
  | succ k ih =>
    intro p u v3 h hf hI hQ
    have hd := hd0.w hf.w
    have hP3 := hW.1.1
    refine e_iload_n 63 dX8_goesWord_62 rfl rfl ?_
    refine e_aload_n 64 dX8_goesWord_63 rfl rfl ?_
    refine e_geti 67 dX8_goesWord_64 lf_X8_138 rfl rfl rfl (by decide) hd.1.1 ?_
    refine e_icmp_geN 172 70 dX8_goesWord_67 (by decide) rfl (by omega) (by omega) (fun h67 => ?_) (fun h67 => ?_)
    · exact absurd h67 (by omega)
    · refine e_aload_n 71 dX8_goesWord_70 rfl rfl ?_
      refine e_getr 74 dX8_goesWord_71 lf_X8_41 rfl rfl rfl (by decide) hr.yhe ?_
      refine e_iload_n 75 dX8_goesWord_74 rfl rfl ?_
      refine e_aload_n 76 dX8_goesWord_75 rfl rfl ?_
      refine e_getr 79 dX8_goesWord_76 lf_X8_44 rfl rfl rfl (by decide) hr.yyo ?_
      refine e_iload_n 80 dX8_goesWord_79 rfl rfl ?_
      refine e_iald (v := nI (yv p)) 81 dX8_goesWord_80 rfl rfl (by decide) rfl (by show p < 3; omega) (by rw [hf 236 (by decide)]; exact hyv p h67) ?_
      refine e_iast 82 dX8_goesWord_81 rfl rfl (by decide) rfl (by show p < 3; omega) ?_
      refine e_iconst 83 hic_0 dX8_goesWord_82 rfl ?_
      refine e_istore_n 84 dX8_goesWord_83 rfl (by decide) (zst1_3 rfl) ?_
      have hy1 := hyl p h67
      have hT9 := zHT_le hW h67 hyl
      refine m_X8_gw2 G d Q hr hd0 hW hyv hyl h67 (u0 := zp u 235 p (nI (yv p))) (Λ 0 0) 0 (yv p) _ (by omega) hf.p (zp_s _ _ _ _) (fun _ _ => rfl) (by omega) (fun u2 g1 g2 g3 => ?_)
      refine e_aload_n 137 dX8_goesWord_136 rfl rfl ?_
      refine e_getr 140 dX8_goesWord_137 lf_X8_41 rfl rfl rfl (by decide) hr.yhe ?_
      refine e_iload_n 141 dX8_goesWord_140 rfl rfl ?_
      refine e_aload_n 142 dX8_goesWord_141 rfl rfl ?_
      refine e_getr 145 dX8_goesWord_142 lf_X8_41 rfl rfl rfl (by decide) hr.yhe ?_
      refine e_iload_n 146 dX8_goesWord_145 rfl rfl ?_
      refine e_iald 147 dX8_goesWord_146 rfl rfl (by decide) rfl (by show p < 3; omega) g2 ?_
      refine e_sipush 150 hsi_1000 dX8_goesWord_147 rfl ?_
      refine e_icmp_leN 159 153 dX8_goesWord_150 (by decide) rfl (by omega) (by omega) (fun h150 => ?_) (fun h150 => ?_)
      · refine e_aload_n 160 dX8_goesWord_159 rfl rfl ?_
        refine e_getr 163 dX8_goesWord_160 lf_X8_41 rfl rfl rfl (by decide) hr.yhe ?_
        refine e_iload_n 164 dX8_goesWord_163 rfl rfl ?_
        refine e_iald 165 dX8_goesWord_164 rfl rfl (by decide) rfl (by show p < 3; omega) g2 ?_
        refine e_iast 166 dX8_goesWord_165 rfl rfl (by decide) rfl (by show p < 3; omega) ?_
        refine e_iinc 169 dX8_goesWord_166 rfl (by decide) rfl (z_inc hii_1) (zst1_2 rfl) ?_
        refine e_goto 62 dX8_goesWord_169 (by decide) ?_
        first
          | exact ih (p + 1) _ _ (by omega) g1.p (hI.st (x := yv p + zsum (zHearT (Λ 1) yv p) 0 (Λ 0 0)) (fun j hj => (g3 j hj).trans (zp_k _ _ hj)) (by unfold zHear; omega)) hQ
          | exact ih (p + 1) _ _ (by omega) g1.p (hI.st (x := 1000) (fun j hj => (g3 j hj).trans (zp_k _ _ hj)) (by unfold zHear; omega)) hQ
      · refine e_sipush 156 hsi_1000 dX8_goesWord_153 rfl ?_
        refine e_goto 165 dX8_goesWord_156 (by decide) ?_
        refine e_iast 166 dX8_goesWord_165 rfl rfl (by decide) rfl (by show p < 3; omega) ?_
        refine e_iinc 169 dX8_goesWord_166 rfl (by decide) rfl (z_inc hii_1) (zst1_2 rfl) ?_
        refine e_goto 62 dX8_goesWord_169 (by decide) ?_
        first
          | exact ih (p + 1) _ _ (by omega) g1.p (hI.st (x := yv p + zsum (zHearT (Λ 1) yv p) 0 (Λ 0 0)) (fun j hj => (g3 j hj).trans (zp_k _ _ hj)) (by unfold zHear; omega)) hQ
          | exact ih (p + 1) _ _ (by omega) g1.p (hI.st (x := 1000) (fun j hj => (g3 j hj).trans (zp_k _ _ hj)) (by unfold zHear; omega)) hQ
/-- the row of word w, place p holds g; the rest is as it was -/
def zRwI (mi u : zFi) (w p : Nat) (g : Nat → Nat) : Prop := zFs9 u mi ∧ (∀ j, (∀ x, 10 ≤ x → x ≤ 69 → j ≠ zAt w p x) → u 225 j = mi 225 j) ∧ ∀ x, 10 ≤ x → x ≤ 69 → u 225 (zAt w p x) = nI (g x)
section ZRW
variable {mi u : zFi} {w p a m : Nat} {g g' : Nat → Nat}
theorem zRwI.e (h : zRwI mi u w p g) (e : ∀ x, 10 ≤ x → x ≤ 69 → g x = g' x) : zRwI mi u w p g' := ⟨h.1, h.2.1, fun x h1 h2 => by rw [← e x h1 h2]; exact h.2.2 x h1 h2⟩
theorem zRwI.st (h : zRwI mi u w p g) (h1 : 10 ≤ a) (h2 : a ≤ 69) : zRwI mi (zp u 225 (zAt w p a) (nI m)) w p (fun x => if x = a then m else g x) := by
  refine ⟨zFs9.p.t h.1, fun j hj => ?_, fun x g1 g2 => ?_⟩
  · rw [zp_k _ _ (hj a h1 h2)]; exact h.2.1 j hj
  · show _ = nI (if x = a then m else g x)
    by_cases e : x = a
    · rw [if_pos e, e, zp_s]
    · rw [zp_k _ _ (by unfold zAt; omega), if_neg e]; exact h.2.2 x g1 g2
theorem zRwI.far (h : zRwI mi u w p g) {j : Nat} (hj : j < 50 ∨ 950 ≤ j) (hw : w < 5) (hp : p < 3) : u 225 j = mi 225 j := h.2.1 j (fun x h1 h2 => by unfold zAt; omega)
end ZRW
theorem zShf_e {f : Nat → Nat} {k x : Nat} : (if x = 10 + (k + 1) then (fun x => if 10 + (k + 1) < x then f (x - 1) else f x) (10 + (k + 1) - 1) else (fun x => if 10 + (k + 1) < x then f (x - 1) else f x) x) = if 10 + k < x then f (x - 1) else f x := by
  dsimp only
  by_cases e : x = 10 + (k + 1)
  · rw [if_pos e, if_neg (by omega), if_pos (by omega), e]
  · rw [if_neg e]
    by_cases z : 10 + (k + 1) < x
    · rw [if_pos z, if_pos (by omega)]
    · rw [if_neg z, if_neg (by omega)]
set_option maxHeartbeats 4000000 in
set_option maxRecDepth 100000 in
theorem l_X8_gw3 (G : zG) (d : Nat) (Q : zQ) {v4 v5 : Value} {D E : Nat} {Λ : zLd} {mi : zFi} {ml : zFl} {mr : zFr} (hr : zRf mr D E) (hd0 : zYd mi Λ) (hW : zLandW Λ) {w p : Nat} (hw : w < 5) (hp : p < 3) {f : Nat → Nat} : ∀ (k : Nat) (u : zFi), k ≤ 59 → zRwI mi u w p (fun x => if 10 + k < x then f (x - 1) else f x) → (∀ u2, zRwI mi u2 w p (fun x => if 10 < x then f (x - 1) else f x) → zE G (zRm (d + 2) 238 238) (zQm G 238 238 Q) yX8_goesWord.cls yX8_goesWord.name cX8_goesWord 6 none 238 221 [.ref 224, .int (nI w), .int (nI p), .int (nI 10), v4, v5] [] 238 u2 ml mr) → zE G (zRm (d + 2) 238 238) (zQm G 238 238 Q) yX8_goesWord.cls yX8_goesWord.name cX8_goesWord 6 none 238 185 [.ref 224, .int (nI w), .int (nI p), .int (nI (10 + k)), v4, v5] [] 238 u ml mr := by
  intro k
  induction k with
  | zero =>
    intro u h hI hQ
    refine e_iload_n 186 dX8_goesWord_185 rfl rfl ?_
    refine e_bipush 188 hbi_10 dX8_goesWord_186 rfl ?_
    refine e_icmp_leN 221 191 dX8_goesWord_188 (by decide) rfl (by omega) (by omega) (fun h188 => ?_) (fun h188 => ?_)
    · exact hQ u hI
    · exact absurd h188 (by omega)
  | succ k ih =>
    intro u h hI hQ
    refine e_iload_n 186 dX8_goesWord_185 rfl rfl ?_
    refine e_bipush 188 hbi_10 dX8_goesWord_186 rfl ?_
    refine e_icmp_leN 221 191 dX8_goesWord_188 (by decide) rfl (by omega) (by omega) (fun h188 => ?_) (fun h188 => ?_)
    · exact absurd h188 (by omega)
    · refine e_aload_n 192 dX8_goesWord_191 rfl rfl ?_
      refine e_getr 195 dX8_goesWord_192 lf_X8_7 rfl rfl rfl (by decide) hr.ys ?_
      refine e_iload_n 196 dX8_goesWord_195 rfl rfl ?_
      refine e_iload_n 197 dX8_goesWord_196 rfl rfl ?_
      refine e_iload_n 198 dX8_goesWord_197 rfl rfl ?_
      refine c_Sqi 201 dX8_goesWord_198 (k_X8_at G) lm_X8_162 zt_yX8_at rfl rfl rfl (Nat.le_of_ble_eq_true rfl) (Nat.le_of_ble_eq_true rfl) (Nat.le_of_ble_eq_true rfl) (by exact Nat.le_refl _) (by exact Nat.le_refl _) ?_
      refine e_aload_n 202 dX8_goesWord_201 rfl rfl ?_
      refine e_getr 205 dX8_goesWord_202 lf_X8_7 rfl rfl rfl (by decide) hr.ys ?_
      refine e_iload_n 206 dX8_goesWord_205 rfl rfl ?_
      refine e_iload_n 207 dX8_goesWord_206 rfl rfl ?_
      refine e_iload_n 208 dX8_goesWord_207 rfl rfl ?_
      refine e_iconst 209 hic_1 dX8_goesWord_208 rfl ?_
      first | refine e_isubN 210 dX8_goesWord_209 rfl (by omega) ?_ | refine e_isub 210 dX8_goesWord_209 rfl ?_
      refine c_Sqi 213 dX8_goesWord_210 (k_X8_at G) lm_X8_162 zt_yX8_at rfl rfl rfl (Nat.le_of_ble_eq_true rfl) (Nat.le_of_ble_eq_true rfl) (Nat.le_of_ble_eq_true rfl) (by exact Nat.le_refl _) (by exact Nat.le_refl _) ?_
      refine e_iald 214 dX8_goesWord_213 rfl rfl (by decide) rfl (by show zAt w p (10 + (k + 1) - 1) < 2950; unfold zAt; omega) (hI.2.2 _ (by omega) (by omega)) ?_
      refine e_iast 215 dX8_goesWord_214 rfl rfl (by decide) rfl (by show zAt w p (10 + (k + 1)) < 2950; unfold zAt; omega) ?_
      refine e_iinc 218 dX8_goesWord_215 rfl (by decide) rfl (z_dec (by omega)) (zst1_3 rfl) ?_
      refine e_goto 185 dX8_goesWord_218 (by decide) ?_
      exact ih _ (by omega) ((hI.st (a := 10 + (k + 1)) (by omega) (by omega)).e (fun x g1 g2 => zShf_e)) hQ
theorem zIt_y {c : Prop} {d : Decidable c} {g : Nat → Nat} {a y m : Nat} (h : c) : (if y = a then m else g y) = if y = a then (@ite _ c d m (g a)) else g y := by rw [iteP h]
theorem zIt_n {c : Prop} {d : Decidable c} {g : Nat → Nat} {a y m : Nat} (h : ¬ c) : g y = if y = a then (@ite _ c d m (g a)) else g y := by
  rw [iteN h]
  by_cases e : y = a
  · rw [if_pos e, e]
  · rw [if_neg e]
set_option maxHeartbeats 4000000 in
set_option maxRecDepth 100000 in
theorem s_X8_gwA (G : zG) (d : Nat) (Q : zQ) {D E : Nat} {Λ : zLd} {mi : zFi} {ml : zFl} {mr : zFr} (hr : zRf mr D E) (hd0 : zYd mi Λ) (hW : zLandW Λ) {w p : Nat} (hw : w < 5) (hp : p < 3) {u : zFi} {g : Nat → Nat} {a th he par : Nat} (hh : mi 235 p = nI he) (hpa : mi 237 p = nI par) (hth : th ≤ 1000) (hhe : he ≤ 1000) (hpr : par ≤ 1000) (ha : 10 ≤ a) (ha2 : a ≤ 69) (hg : g a ≤ 1000) (hI : zRwI mi u w p g) (hQ : ∀ u2, zRwI mi u2 w p (fun y => if y = a then (if 13 ≤ a ∧ a ≤ 19 then zTakeF (Λ 0 2 * he) par (g a) else g a) else g y) → zE G (zRm (d + 2) 238 238) (zQm G 238 238 Q) yX8_goesWord.cls yX8_goesWord.name cX8_goesWord 6 none 238 364 [.ref 224, .int (nI w), .int (nI p), .int (nI th), .int (nI a), .int (nI (zAt w p a))] [] 238 u2 ml mr) : zE G (zRm (d + 2) 238 238) (zQm G 238 238 Q) yX8_goesWord.cls yX8_goesWord.name cX8_goesWord 6 none 238 297 [.ref 224, .int (nI w), .int (nI p), .int (nI th), .int (nI a), .int (nI (zAt w p a))] [] 238 u ml mr := by
  have hd := hd0.s hI.1
  have hl1 := hW.1
  refine e_iload 299 dX8_goesWord_297 rfl rfl ?_
  refine e_bipush 301 hbi_13 dX8_goesWord_299 rfl ?_
  refine e_bipush 303 hbi_19 dX8_goesWord_301 rfl ?_
  refine c_Sqi 306 dX8_goesWord_303 (k_X8_inN G (by decide) (by decide)) lm_X8_60 zt_yX8_in rfl rfl rfl (Nat.le_of_ble_eq_true rfl) (Nat.le_of_ble_eq_true rfl) (Nat.le_of_ble_eq_true rfl) (by exact Nat.le_refl _) (by exact Nat.le_refl _) ?_
  refine e_if_eq 364 309 dX8_goesWord_306 (by decide) rfl (fun h306 => ?_) (fun h306 => ?_)
  · have h306 := zB_0 h306
    rw [vR_nI (by omega)] at h306
    first
      | exact hQ _ ((hI.st (a := a) (m := zTakeF (Λ 0 2 * he) par (g a)) ha ha2).e (fun y _ _ => zIt_y (by omega)))
      | exact hQ u (hI.e (fun y _ _ => zIt_n (by omega)))
  · have h306 := zB_1 h306
    rw [vR_nI (by omega)] at h306
    refine e_aload_n 310 dX8_goesWord_309 rfl rfl ?_
    refine e_getr 313 dX8_goesWord_310 lf_X8_7 rfl rfl rfl (by decide) hr.ys ?_
    refine e_iload 315 dX8_goesWord_313 rfl rfl ?_
    refine e_dup2 316 dX8_goesWord_315 rfl rfl rfl ?_
    refine e_iald 317 dX8_goesWord_316 rfl rfl (by decide) rfl (by show zAt w p (a) < 2950; unfold zAt; omega) (hI.2.2 a ha ha2) ?_
    refine e_aload_n 318 dX8_goesWord_317 rfl rfl ?_
    refine e_getr 321 dX8_goesWord_318 lf_X8_26 rfl rfl rfl (by decide) hr.yl ?_
    refine e_iconst 322 hic_0 dX8_goesWord_321 rfl ?_
    refine e_iald (v := nI (Λ 0 2)) 323 dX8_goesWord_322 rfl rfl (by decide) rfl (by show 0 < 10; decide) (hd.2.1 0 (by decide)) ?_
    refine e_i2l 324 dX8_goesWord_323 rfl ?_
    rw [nI_l (by omega)]
    refine e_aload_n 325 dX8_goesWord_324 rfl rfl ?_
    refine e_getr 328 dX8_goesWord_325 lf_X8_41 rfl rfl rfl (by decide) hr.yhe ?_
    refine e_iload_n 329 dX8_goesWord_328 rfl rfl ?_
    refine e_iald (v := nI he) 330 dX8_goesWord_329 rfl rfl (by decide) rfl (by show p < 3; omega) (by rw [hI.1 235 (by decide)]; exact hh) ?_
    refine e_i2l 331 dX8_goesWord_330 rfl ?_
    rw [nI_l (by omega)]
    refine e_lmul 332 dX8_goesWord_331 rfl ?_
    rw [lN_mul]
    refine e_sipush 335 hsi_1000 dX8_goesWord_332 rfl ?_
    refine e_aload_n 336 dX8_goesWord_335 rfl rfl ?_
    refine e_getr 339 dX8_goesWord_336 lf_X8_7 rfl rfl rfl (by decide) hr.ys ?_
    refine e_iload 341 dX8_goesWord_339 rfl rfl ?_
    refine e_iald 342 dX8_goesWord_341 rfl rfl (by decide) rfl (by show zAt w p (a) < 2950; unfold zAt; omega) (hI.2.2 a ha ha2) ?_
    first | refine e_isubN 343 dX8_goesWord_342 rfl (by omega) ?_ | refine e_isub 343 dX8_goesWord_342 rfl ?_
    refine e_i2l 344 dX8_goesWord_343 rfl ?_
    rw [nI_l (by omega)]
    refine e_lmul 345 dX8_goesWord_344 rfl ?_
    rw [lN_mul]
    refine e_sipush 348 hsi_1000 dX8_goesWord_345 rfl ?_
    refine e_aload_n 349 dX8_goesWord_348 rfl rfl ?_
    refine e_getr 352 dX8_goesWord_349 lf_X8_47 rfl rfl rfl (by decide) hr.ypa ?_
    refine e_iload_n 353 dX8_goesWord_352 rfl rfl ?_
    refine e_iald (v := nI par) 354 dX8_goesWord_353 rfl rfl (by decide) rfl (by show p < 3; omega) (by rw [hI.1 237 (by decide)]; exact hpa) ?_
    first | refine e_isubN 355 dX8_goesWord_354 rfl (by omega) ?_ | refine e_isub 355 dX8_goesWord_354 rfl ?_
    refine e_i2l 356 dX8_goesWord_355 rfl ?_
    rw [nI_l (by omega)]
    refine e_lmul 357 dX8_goesWord_356 rfl ?_
    rw [lN_mul]
    refine e_ldc2_w 360 lc_X8_182 dX8_goesWord_357 rfl ?_
    refine e_ldiv 361 dX8_goesWord_360 rfl (by decide) ?_
    rw [lN_div (by have h0 : Λ 0 2 * he ≤ 9 * 1000 := Nat.mul_le_mul hl1.2.2.1 hhe; have h1 : Λ 0 2 * he * (1000 - g a) ≤ 9 * 1000 * 1000 := Nat.mul_le_mul h0 (by omega); have h2 : Λ 0 2 * he * (1000 - g a) * (1000 - par) ≤ 9 * 1000 * 1000 * 1000 := Nat.mul_le_mul h1 (by omega); omega) (by decide)]
    refine e_l2i 362 dX8_goesWord_361 rfl ?_
    rw [lN_i]
    first | refine e_iaddN 363 dX8_goesWord_362 rfl ?_ | refine e_iadd 363 dX8_goesWord_362 rfl ?_
    refine e_iast 364 dX8_goesWord_363 rfl rfl (by decide) rfl (by show zAt w p (a) < 2950; unfold zAt; omega) ?_
    first
      | exact hQ _ ((hI.st (a := a) (m := zTakeF (Λ 0 2 * he) par (g a)) ha ha2).e (fun y _ _ => zIt_y (by omega)))
      | exact hQ u (hI.e (fun y _ _ => zIt_n (by omega)))
set_option maxHeartbeats 4000000 in
set_option maxRecDepth 100000 in
theorem s_X8_gwB (G : zG) (d : Nat) (Q : zQ) {D E : Nat} {Λ : zLd} {mi : zFi} {ml : zFl} {mr : zFr} (hr : zRf mr D E) (hd0 : zYd mi Λ) (hW : zLandW Λ) {w p : Nat} (hw : w < 5) (hp : p < 3) {u : zFi} {g : Nat → Nat} {a th he par : Nat} (hh : mi 235 p = nI he) (hpa : mi 237 p = nI par) (hth : th ≤ 1000) (hhe : he ≤ 1000) (hpr : par ≤ 1000) (ha : 10 ≤ a) (ha2 : a ≤ 69) (hg : g a ≤ 1000) (hI : zRwI mi u w p g) (hQ : ∀ u2, zRwI mi u2 w p (fun y => if y = a then (if 10 ≤ a ∧ a ≤ 19 then zDropF (Λ 0 4 * par) (g a) else g a) else g y) → zE G (zRm (d + 2) 238 238) (zQm G 238 238 Q) yX8_goesWord.cls yX8_goesWord.name cX8_goesWord 6 none 238 406 [.ref 224, .int (nI w), .int (nI p), .int (nI th), .int (nI a), .int (nI (zAt w p a))] [] 238 u2 ml mr) : zE G (zRm (d + 2) 238 238) (zQm G 238 238 Q) yX8_goesWord.cls yX8_goesWord.name cX8_goesWord 6 none 238 364 [.ref 224, .int (nI w), .int (nI p), .int (nI th), .int (nI a), .int (nI (zAt w p a))] [] 238 u ml mr := by
  have hd := hd0.s hI.1
  have hl1 := hW.1
  refine e_iload 366 dX8_goesWord_364 rfl rfl ?_
  refine e_bipush 368 hbi_20 dX8_goesWord_366 rfl ?_
  refine e_icmp_geN 406 371 dX8_goesWord_368 (by decide) rfl (by omega) (by omega) (fun h368 => ?_) (fun h368 => ?_)
  · first
      | exact hQ _ ((hI.st (a := a) (m := zDropF (Λ 0 4 * par) (g a)) ha ha2).e (fun y _ _ => zIt_y (by omega)))
      | exact hQ u (hI.e (fun y _ _ => zIt_n (by omega)))
  · refine e_aload_n 372 dX8_goesWord_371 rfl rfl ?_
    refine e_getr 375 dX8_goesWord_372 lf_X8_7 rfl rfl rfl (by decide) hr.ys ?_
    refine e_iload 377 dX8_goesWord_375 rfl rfl ?_
    refine e_dup2 378 dX8_goesWord_377 rfl rfl rfl ?_
    refine e_iald 379 dX8_goesWord_378 rfl rfl (by decide) rfl (by show zAt w p (a) < 2950; unfold zAt; omega) (hI.2.2 a ha ha2) ?_
    refine e_aload_n 380 dX8_goesWord_379 rfl rfl ?_
    refine e_getr 383 dX8_goesWord_380 lf_X8_26 rfl rfl rfl (by decide) hr.yl ?_
    refine e_iconst 384 hic_2 dX8_goesWord_383 rfl ?_
    refine e_iald (v := nI (Λ 0 4)) 385 dX8_goesWord_384 rfl rfl (by decide) rfl (by show 2 < 10; decide) (hd.2.1 2 (by decide)) ?_
    refine e_aload_n 386 dX8_goesWord_385 rfl rfl ?_
    refine e_getr 389 dX8_goesWord_386 lf_X8_47 rfl rfl rfl (by decide) hr.ypa ?_
    refine e_iload_n 390 dX8_goesWord_389 rfl rfl ?_
    refine e_iald (v := nI par) 391 dX8_goesWord_390 rfl rfl (by decide) rfl (by show p < 3; omega) (by rw [hI.1 237 (by decide)]; exact hpa) ?_
    first | refine e_imulN 392 dX8_goesWord_391 rfl ?_ | refine e_imul 392 dX8_goesWord_391 rfl ?_
    refine e_aload_n 393 dX8_goesWord_392 rfl rfl ?_
    refine e_getr 396 dX8_goesWord_393 lf_X8_7 rfl rfl rfl (by decide) hr.ys ?_
    refine e_iload 398 dX8_goesWord_396 rfl rfl ?_
    refine e_iald 399 dX8_goesWord_398 rfl rfl (by decide) rfl (by show zAt w p (a) < 2950; unfold zAt; omega) (hI.2.2 a ha ha2) ?_
    first | refine e_imulN 400 dX8_goesWord_399 rfl ?_ | refine e_imul 400 dX8_goesWord_399 rfl ?_
    refine e_sipush 403 hsi_10000 dX8_goesWord_400 rfl ?_
    refine e_idivN 404 dX8_goesWord_403 rfl (by have h0 : Λ 0 4 * par ≤ 9 * 1000 := Nat.mul_le_mul hl1.2.2.2.2.1 hpr; have h1 : Λ 0 4 * par * g a ≤ 9 * 1000 * 1000 := Nat.mul_le_mul h0 hg; omega) (by omega) (by omega) ?_
    first | refine e_isubN 405 dX8_goesWord_404 rfl (by have h0 : Λ 0 4 * par ≤ 9 * 1000 := Nat.mul_le_mul hl1.2.2.2.2.1 hpr; have h1 : Λ 0 4 * par * g a ≤ 9 * 1000 * g a := Nat.mul_le_mul_right _ h0; omega) ?_ | refine e_isub 405 dX8_goesWord_404 rfl ?_
    refine e_iast 406 dX8_goesWord_405 rfl rfl (by decide) rfl (by show zAt w p (a) < 2950; unfold zAt; omega) ?_
    first
      | exact hQ _ ((hI.st (a := a) (m := zDropF (Λ 0 4 * par) (g a)) ha ha2).e (fun y _ _ => zIt_y (by omega)))
      | exact hQ u (hI.e (fun y _ _ => zIt_n (by omega)))
set_option maxHeartbeats 4000000 in
set_option maxRecDepth 100000 in
theorem s_X8_gwC (G : zG) (d : Nat) (Q : zQ) {D E : Nat} {Λ : zLd} {mi : zFi} {ml : zFl} {mr : zFr} (hr : zRf mr D E) (hd0 : zYd mi Λ) (hW : zLandW Λ) {w p : Nat} (hw : w < 5) (hp : p < 3) {u : zFi} {g : Nat → Nat} {a th he par : Nat} (hh : mi 235 p = nI he) (hpa : mi 237 p = nI par) (hth : th ≤ 1000) (hhe : he ≤ 1000) (hpr : par ≤ 1000) (ha : 10 ≤ a) (ha2 : a ≤ 69) (hg : g a ≤ 1000) (hI : zRwI mi u w p g) (hQ : ∀ u2, zRwI mi u2 w p (fun y => if y = a then (if 35 ≤ a ∧ a ≤ 50 then zLrnF (Λ 0 3 * th) (g a) else g a) else g y) → zE G (zRm (d + 2) 238 238) (zQm G 238 238 Q) yX8_goesWord.cls yX8_goesWord.name cX8_goesWord 6 none 238 452 [.ref 224, .int (nI w), .int (nI p), .int (nI th), .int (nI a), .int (nI (zAt w p a))] [] 238 u2 ml mr) : zE G (zRm (d + 2) 238 238) (zQm G 238 238 Q) yX8_goesWord.cls yX8_goesWord.name cX8_goesWord 6 none 238 406 [.ref 224, .int (nI w), .int (nI p), .int (nI th), .int (nI a), .int (nI (zAt w p a))] [] 238 u ml mr := by
  have hd := hd0.s hI.1
  have hl1 := hW.1
  refine e_iload 408 dX8_goesWord_406 rfl rfl ?_
  refine e_bipush 410 hbi_35 dX8_goesWord_408 rfl ?_
  refine e_bipush 412 hbi_50 dX8_goesWord_410 rfl ?_
  refine c_Sqi 415 dX8_goesWord_412 (k_X8_inN G (by decide) (by decide)) lm_X8_60 zt_yX8_in rfl rfl rfl (Nat.le_of_ble_eq_true rfl) (Nat.le_of_ble_eq_true rfl) (Nat.le_of_ble_eq_true rfl) (by exact Nat.le_refl _) (by exact Nat.le_refl _) ?_
  refine e_if_eq 452 418 dX8_goesWord_415 (by decide) rfl (fun h415 => ?_) (fun h415 => ?_)
  · have h415 := zB_0 h415
    rw [vR_nI (by omega)] at h415
    first
      | exact hQ _ ((hI.st (a := a) (m := zLrnF (Λ 0 3 * th) (g a)) ha ha2).e (fun y _ _ => zIt_y (by omega)))
      | exact hQ u (hI.e (fun y _ _ => zIt_n (by omega)))
  · have h415 := zB_1 h415
    rw [vR_nI (by omega)] at h415
    refine e_aload_n 419 dX8_goesWord_418 rfl rfl ?_
    refine e_getr 422 dX8_goesWord_419 lf_X8_7 rfl rfl rfl (by decide) hr.ys ?_
    refine e_iload 424 dX8_goesWord_422 rfl rfl ?_
    refine e_dup2 425 dX8_goesWord_424 rfl rfl rfl ?_
    refine e_iald 426 dX8_goesWord_425 rfl rfl (by decide) rfl (by show zAt w p (a) < 2950; unfold zAt; omega) (hI.2.2 a ha ha2) ?_
    refine e_aload_n 427 dX8_goesWord_426 rfl rfl ?_
    refine e_getr 430 dX8_goesWord_427 lf_X8_26 rfl rfl rfl (by decide) hr.yl ?_
    refine e_iconst 431 hic_1 dX8_goesWord_430 rfl ?_
    refine e_iald (v := nI (Λ 0 3)) 432 dX8_goesWord_431 rfl rfl (by decide) rfl (by show 1 < 10; decide) (hd.2.1 1 (by decide)) ?_
    refine e_iload_n 433 dX8_goesWord_432 rfl rfl ?_
    first | refine e_imulN 434 dX8_goesWord_433 rfl ?_ | refine e_imul 434 dX8_goesWord_433 rfl ?_
    refine e_sipush 437 hsi_1000 dX8_goesWord_434 rfl ?_
    refine e_aload_n 438 dX8_goesWord_437 rfl rfl ?_
    refine e_getr 441 dX8_goesWord_438 lf_X8_7 rfl rfl rfl (by decide) hr.ys ?_
    refine e_iload 443 dX8_goesWord_441 rfl rfl ?_
    refine e_iald 444 dX8_goesWord_443 rfl rfl (by decide) rfl (by show zAt w p (a) < 2950; unfold zAt; omega) (hI.2.2 a ha ha2) ?_
    first | refine e_isubN 445 dX8_goesWord_444 rfl (by omega) ?_ | refine e_isub 445 dX8_goesWord_444 rfl ?_
    first | refine e_imulN 446 dX8_goesWord_445 rfl ?_ | refine e_imul 446 dX8_goesWord_445 rfl ?_
    refine e_sipush 449 hsi_10000 dX8_goesWord_446 rfl ?_
    refine e_idivN 450 dX8_goesWord_449 rfl (by have h0 : Λ 0 3 * th ≤ 9 * 1000 := Nat.mul_le_mul hl1.2.2.2.1 hth; have h1 : Λ 0 3 * th * (1000 - g a) ≤ 9 * 1000 * 1000 := Nat.mul_le_mul h0 (by omega); omega) (by omega) (by omega) ?_
    first | refine e_iaddN 451 dX8_goesWord_450 rfl ?_ | refine e_iadd 451 dX8_goesWord_450 rfl ?_
    refine e_iast 452 dX8_goesWord_451 rfl rfl (by decide) rfl (by show zAt w p (a) < 2950; unfold zAt; omega) ?_
    first
      | exact hQ _ ((hI.st (a := a) (m := zLrnF (Λ 0 3 * th) (g a)) ha ha2).e (fun y _ _ => zIt_y (by omega)))
      | exact hQ u (hI.e (fun y _ _ => zIt_n (by omega)))
