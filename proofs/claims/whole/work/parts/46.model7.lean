def zAg0 (R g0 : Nat → Nat) (a : Nat) : Nat → Nat := fun x => if x < a then R x else g0 x
def zAg1 (s par : Nat) (g : Nat → Nat) (a : Nat) : Nat → Nat := fun y => if y = a then (if 13 ≤ a ∧ a ≤ 19 then zTakeF s par (g a) else g a) else g y
def zAg2 (c : Nat) (g : Nat → Nat) (a : Nat) : Nat → Nat := fun y => if y = a then (if 10 ≤ a ∧ a ≤ 19 then zDropF c (g a) else g a) else g y
def zAg3 (l : Nat) (g : Nat → Nat) (a : Nat) : Nat → Nat := fun y => if y = a then (if 35 ≤ a ∧ a ≤ 50 then zLrnF l (g a) else g a) else g y
def zAgR (s par c l : Nat) (g0 : Nat → Nat) : Nat → Nat := zLrn l (zDrop c (zTake s par g0))
theorem zAg0_a (R g0 : Nat → Nat) (a : Nat) : zAg0 R g0 a a = g0 a := if_neg (Nat.lt_irrefl a)
theorem zAg1_a (s par : Nat) (g : Nat → Nat) (a : Nat) : zAg1 s par g a a = if 13 ≤ a ∧ a ≤ 19 then zTakeF s par (g a) else g a := if_pos rfl
theorem zAg2_a (c : Nat) (g : Nat → Nat) (a : Nat) : zAg2 c g a a = if 10 ≤ a ∧ a ≤ 19 then zDropF c (g a) else g a := if_pos rfl
theorem zAg3_a (l : Nat) (g : Nat → Nat) (a : Nat) : zAg3 l g a a = if 35 ≤ a ∧ a ≤ 50 then zLrnF l (g a) else g a := if_pos rfl
theorem zAg_e {s par c l a : Nat} {g0 : Nat → Nat} (x : Nat) : zAg3 l (zAg2 c (zAg1 s par (zAg0 (zAgR s par c l g0) g0 a) a) a) a x = zAg0 (zAgR s par c l g0) g0 (a + 1) x := by
  by_cases e : x = a
  · subst e
    rw [zAg3_a, zAg2_a, zAg1_a, zAg0_a]
    show _ = if x < x + 1 then zAgR s par c l g0 x else g0 x
    rw [if_pos (Nat.lt_succ_self x)]
    rfl
  · have e3 : zAg3 l (zAg2 c (zAg1 s par (zAg0 (zAgR s par c l g0) g0 a) a) a) a x = zAg0 (zAgR s par c l g0) g0 a x := by
      unfold zAg3 zAg2 zAg1
      rw [if_neg e, if_neg e, if_neg e]
    rw [e3]
    unfold zAg0
    by_cases z : x < a
    · rw [if_pos z, if_pos (by omega)]
    · rw [if_neg z, if_neg (by omega)]
theorem zAg1_le {s par a : Nat} {g : Nat → Nat} (hs : s ≤ 9000) (hp : par ≤ 1000) (hg : g a ≤ 1000) : zAg1 s par g a a ≤ 1000 := by
  rw [zAg1_a]
  split
  · exact zTakeF_le hs hp hg
  · exact hg
theorem zAg2_le {c a : Nat} {g : Nat → Nat} (hg : g a ≤ 1000) : zAg2 c g a a ≤ 1000 := by
  rw [zAg2_a]
  split
  · exact zDropF_le hg
  · exact hg
set_option maxHeartbeats 4000000 in
set_option maxRecDepth 100000 in
theorem l_X8_gw4 (G : zG) (d : Nat) (Q : zQ) {D E : Nat} {Λ : zLd} {mi : zFi} {ml : zFl} {mr : zFr} (hr : zRf mr D E) (hd0 : zYd mi Λ) (hW : zLandW Λ) {w p : Nat} (hw : w < 5) (hp : p < 3) {g0 : Nat → Nat} {th he par : Nat} (hh : mi 235 p = nI he) (hpa : mi 237 p = nI par) (hth : th ≤ 1000) (hhe : he ≤ 1000) (hpr : par ≤ 1000) (hle : zLe g0) : ∀ (k a : Nat) (u : zFi) (v5 : Value), 10 ≤ a → a + k = 70 → zRwI mi u w p (zAg0 (zAgR (Λ 0 2 * he) par (Λ 0 4 * par) (Λ 0 3 * th) g0) g0 a) → (∀ u2 v5, zRwI mi u2 w p (zAgR (Λ 0 2 * he) par (Λ 0 4 * par) (Λ 0 3 * th) g0) → zE G (zRm (d + 2) 238 238) (zQm G 238 238 Q) yX8_goesWord.cls yX8_goesWord.name cX8_goesWord 6 none 238 458 [.ref 224, .int (nI w), .int (nI p), .int (nI th), .int (nI 70), v5] [] 238 u2 ml mr) → zE G (zRm (d + 2) 238 238) (zQm G 238 238 Q) yX8_goesWord.cls yX8_goesWord.name cX8_goesWord 6 none 238 281 [.ref 224, .int (nI w), .int (nI p), .int (nI th), .int (nI a), v5] [] 238 u ml mr := by
  intro k
  induction k with
  | zero =>
    intro a u v5 ha h hI hQ
    refine e_iload 283 dX8_goesWord_281 rfl rfl ?_
    refine e_bipush 285 hbi_70 dX8_goesWord_283 rfl ?_
    refine e_icmp_geN 458 288 dX8_goesWord_285 (by decide) rfl (by omega) (by omega) (fun h285 => ?_) (fun h285 => ?_)
    · have e : a = 70 := by omega
      subst e
      exact hQ u _ (hI.e (fun x _ _ => if_pos (by omega)))
    · exact absurd h285 (by omega)
  | succ k ih =>
    intro a u v5 ha h hI hQ
    refine e_iload 283 dX8_goesWord_281 rfl rfl ?_
    refine e_bipush 285 hbi_70 dX8_goesWord_283 rfl ?_
    refine e_icmp_geN 458 288 dX8_goesWord_285 (by decide) rfl (by omega) (by omega) (fun h285 => ?_) (fun h285 => ?_)
    · exact absurd h285 (by omega)
    · refine e_iload_n 289 dX8_goesWord_288 rfl rfl ?_
      refine e_iload_n 290 dX8_goesWord_289 rfl rfl ?_
      refine e_iload 292 dX8_goesWord_290 rfl rfl ?_
      refine c_Sqi 295 dX8_goesWord_292 (k_X8_at G) lm_X8_162 zt_yX8_at rfl rfl rfl (Nat.le_of_ble_eq_true rfl) (Nat.le_of_ble_eq_true rfl) (Nat.le_of_ble_eq_true rfl) (by exact Nat.le_refl _) (by exact Nat.le_refl _) ?_
      refine e_istore 297 dX8_goesWord_295 rfl (by decide) (zst1_5 rfl) ?_
      have g0a := hle a ha (by omega)
      have hs9 : Λ 0 2 * he ≤ 9000 := by have := Nat.mul_le_mul hW.1.2.2.1 hhe; omega
      have b0 : zAg0 (zAgR (Λ 0 2 * he) par (Λ 0 4 * par) (Λ 0 3 * th) g0) g0 a a ≤ 1000 := by rw [zAg0_a]; exact g0a
      refine s_X8_gwA G d Q hr hd0 hW hw hp hh hpa hth hhe hpr ha (by omega) b0 hI (fun u2 hJ => ?_)
      have hJ : zRwI mi u2 w p (zAg1 (Λ 0 2 * he) par (zAg0 (zAgR (Λ 0 2 * he) par (Λ 0 4 * par) (Λ 0 3 * th) g0) g0 a) a) := hJ
      have b1 : zAg1 (Λ 0 2 * he) par (zAg0 (zAgR (Λ 0 2 * he) par (Λ 0 4 * par) (Λ 0 3 * th) g0) g0 a) a a ≤ 1000 := zAg1_le hs9 hpr b0
      refine s_X8_gwB G d Q hr hd0 hW hw hp hh hpa hth hhe hpr ha (by omega) b1 hJ (fun u3 hK => ?_)
      have hK : zRwI mi u3 w p (zAg2 (Λ 0 4 * par) (zAg1 (Λ 0 2 * he) par (zAg0 (zAgR (Λ 0 2 * he) par (Λ 0 4 * par) (Λ 0 3 * th) g0) g0 a) a) a) := hK
      have b2 : zAg2 (Λ 0 4 * par) (zAg1 (Λ 0 2 * he) par (zAg0 (zAgR (Λ 0 2 * he) par (Λ 0 4 * par) (Λ 0 3 * th) g0) g0 a) a) a a ≤ 1000 := zAg2_le b1
      refine s_X8_gwC G d Q hr hd0 hW hw hp hh hpa hth hhe hpr ha (by omega) b2 hK (fun u4 hL => ?_)
      have hL : zRwI mi u4 w p (zAg3 (Λ 0 3 * th) (zAg2 (Λ 0 4 * par) (zAg1 (Λ 0 2 * he) par (zAg0 (zAgR (Λ 0 2 * he) par (Λ 0 4 * par) (Λ 0 3 * th) g0) g0 a) a) a) a) := hL
      refine e_iinc 455 dX8_goesWord_452 rfl (by decide) rfl (z_inc hii_1) (zst1_4 rfl) ?_
      refine e_goto 281 dX8_goesWord_455 (by decide) ?_
      exact ih (a + 1) u4 _ (by omega) (by omega) (hL.e (fun x _ _ => zAg_e x)) hQ
/-- the rows of word w: new before place p, as they were from it on -/
def zPlI (mi u : zFi) (N w : Nat) (R sh : Nat → Nat → Nat) (p : Nat) : Prop := zFs9 u mi ∧ (∀ j, (∀ q x, q < N → 10 ≤ x → x ≤ 69 → j ≠ zAt w q x) → u 225 j = mi 225 j) ∧ ∀ q, q < N → ∀ x, 10 ≤ x → x ≤ 69 → u 225 (zAt w q x) = nI (if q < p then R q x else sh q x)
theorem zPlI.st {mi u u2 : zFi} {N w p : Nat} {R sh : Nat → Nat → Nat} (hN : N ≤ 3) (hp : p < N) (h : zPlI mi u N w R sh p) (h2 : zRwI u u2 w p (R p)) : zPlI mi u2 N w R sh (p + 1) := by
  refine ⟨h2.1.t h.1, fun j hj => (h2.2.1 j (fun x g1 g2 => hj p x hp g1 g2)).trans (h.2.1 j hj), fun q hq x g1 g2 => ?_⟩
  by_cases e : q = p
  · subst e
    rw [if_pos (Nat.lt_succ_self q)]
    exact h2.2.2 x g1 g2
  · rw [h2.2.1 _ (fun y k1 k2 => by unfold zAt; omega), h.2.2 q hq x g1 g2]
    by_cases z : q < p
    · rw [if_pos z, if_pos (by omega)]
    · rw [if_neg z, if_neg (by omega)]
theorem zPlI.row {mi u : zFi} {N w p : Nat} {R sh : Nat → Nat → Nat} (hp : p < N) (h : zPlI mi u N w R sh p) : zRwI u u w p (sh p) := ⟨zFs9.r u, fun _ _ => rfl, fun x g1 g2 => by rw [h.2.2 p hp x g1 g2, if_neg (Nat.lt_irrefl p)]⟩
theorem zGrow_e {f : Nat → Nat} {x : Nat} : (if x = 10 then 0 else (fun x => if 10 < x then f (x - 1) else f x) x) = if x = 10 then 0 else (if 10 < x then f (x - 1) else f x) := rfl
theorem zGrow_x {f : Nat → Nat} {x : Nat} (h : 10 ≤ x) : (fun y => if y = 10 then 0 else (fun x => if 10 < x then f (x - 1) else f x) y) x = zGrow f x := by
  show (if x = 10 then 0 else (if 10 < x then f (x - 1) else f x)) = if x = 10 then 0 else f (x - 1)
  by_cases e : x = 10
  · rw [if_pos e, if_pos e]
  · rw [if_neg e, if_neg e, if_pos (by omega)]
set_option maxHeartbeats 4000000 in
set_option maxRecDepth 100000 in
theorem l_X8_gw5 (G : zG) (d : Nat) (Q : zQ) {D E : Nat} {Λ : zLd} {mi : zFi} {ml : zFl} {mr : zFr} (hr : zRf mr D E) (hd0 : zYd mi Λ) (hW : zLandW Λ) {w y : Nat} (hw : w < Λ 0 1) (hy0 : mi 225 0 = nI y) (hy : y ≤ 99) {sh yg : Nat → Nat → Nat} {he par : Nat → Nat} (hle : ∀ q, q < Λ 0 0 → zLe (sh q)) (hyg : ∀ q, q < Λ 0 0 → ∀ t, t ≤ y → mi 225 (zYo w q t) = nI (yg q t)) (hyl : ∀ q, q < Λ 0 0 → ∀ t, t ≤ y → yg q t ≤ 1000) (hh : ∀ q, q < Λ 0 0 → mi 235 q = nI (he q) ∧ he q ≤ 1000) (hpa : ∀ q, q < Λ 0 0 → mi 237 q = nI (par q) ∧ par q ≤ 1000) : ∀ (k p : Nat) (u : zFi) (v3 v4 v5 : Value), p + k = Λ 0 0 → zPlI mi u (Λ 0 0) w (fun p => zAgR (Λ 0 2 * he p) (par p) (Λ 0 4 * par p) (Λ 0 3 * (if 2 ≤ y then yg p (y - 2) else 0)) (zGrow (sh p))) sh p → (∀ u2, zPlI mi u2 (Λ 0 0) w (fun p => zAgR (Λ 0 2 * he p) (par p) (Λ 0 4 * par p) (Λ 0 3 * (if 2 ≤ y then yg p (y - 2) else 0)) (zGrow (sh p))) sh (Λ 0 0) → Q none u2 ml mr) → zE G (zRm (d + 2) 238 238) (zQm G 238 238 Q) yX8_goesWord.cls yX8_goesWord.name cX8_goesWord 6 none 238 174 [.ref 224, .int (nI w), .int (nI p), v3, v4, v5] [] 238 u ml mr := by
  intro k
  induction k with
  | zero =>
    intro p u v3 v4 v5 h hI hQ
    have hd := hd0.s hI.1
    have hP3 := hW.1.1
    have hW5 := hW.1.2.1
    refine e_iload_n 175 dX8_goesWord_174 rfl rfl ?_
    refine e_aload_n 176 dX8_goesWord_175 rfl rfl ?_
    refine e_geti 179 dX8_goesWord_176 lf_X8_138 rfl rfl rfl (by decide) hd.1.1 ?_
    refine e_icmp_geN 464 182 dX8_goesWord_179 (by decide) rfl (by omega) (by omega) (fun h179 => ?_) (fun h179 => ?_)
    · refine e_vreturn dX8_goesWord_464 rfl ?_
      have e : p = Λ 0 0 := by omega
      subst e
      exact hQ u hI
    · exact absurd h179 (by omega)
  | succ k ih =>
    intro p u v3 v4 v5 h hI hQ
    have hd := hd0.s hI.1
    have hP3 := hW.1.1
    have hW5 := hW.1.2.1
    refine e_iload_n 175 dX8_goesWord_174 rfl rfl ?_
    refine e_aload_n 176 dX8_goesWord_175 rfl rfl ?_
    refine e_geti 179 dX8_goesWord_176 lf_X8_138 rfl rfl rfl (by decide) hd.1.1 ?_
    refine e_icmp_geN 464 182 dX8_goesWord_179 (by decide) rfl (by omega) (by omega) (fun h179 => ?_) (fun h179 => ?_)
    · exact absurd h179 (by omega)
    · refine e_bipush 184 hbi_69 dX8_goesWord_182 rfl ?_
      refine e_istore_n 185 dX8_goesWord_184 rfl (by decide) (zst1_3 rfl) ?_
      refine l_X8_gw3 G d Q hr hd hW (by omega) (by omega) (f := sh p) 59 u (by decide) ((hI.row h179).e (fun x g1 g2 => (if_neg (by omega)).symm)) (fun u2 h2 => ?_)
      refine e_aload_n 222 dX8_goesWord_221 rfl rfl ?_
      refine e_getr 225 dX8_goesWord_222 lf_X8_7 rfl rfl rfl (by decide) hr.ys ?_
      refine e_iload_n 226 dX8_goesWord_225 rfl rfl ?_
      refine e_iload_n 227 dX8_goesWord_226 rfl rfl ?_
      refine e_bipush 229 hbi_10 dX8_goesWord_227 rfl ?_
      refine c_Sqi 232 dX8_goesWord_229 (k_X8_at G) lm_X8_162 zt_yX8_at rfl rfl rfl (Nat.le_of_ble_eq_true rfl) (Nat.le_of_ble_eq_true rfl) (Nat.le_of_ble_eq_true rfl) (by exact Nat.le_refl _) (by exact Nat.le_refl _) ?_
      refine e_iconst 233 hic_0 dX8_goesWord_232 rfl ?_
      refine e_iast 234 dX8_goesWord_233 rfl rfl (by decide) rfl (by show zAt w p (10) < 2950; unfold zAt; omega) ?_
      have hI3 := (h2.st (a := 10) (m := 0) (by decide) (by decide)).e (g' := zGrow (sh p)) (fun x g1 g2 => zGrow_x g1)
      generalize zp u2 225 (zAt w p 10) (nI 0) = u3 at hI3 ⊢
      refine e_aload_n 235 dX8_goesWord_234 rfl rfl ?_
      refine e_getr 238 dX8_goesWord_235 lf_X8_7 rfl rfl rfl (by decide) hr.ys ?_
      refine e_iconst 239 hic_0 dX8_goesWord_238 rfl ?_
      refine e_iald (v := nI y) 240 dX8_goesWord_239 rfl rfl (by decide) rfl (by show 0 < 2950; decide) ((hI3.2.1 0 (fun x g1 g2 => by unfold zAt; omega)).trans ((hI.2.1 0 (fun q x _ g1 g2 => by unfold zAt; omega)).trans hy0)) ?_
      refine e_iconst 241 hic_2 dX8_goesWord_240 rfl ?_
      refine e_icmp_geN 248 244 dX8_goesWord_241 (by decide) rfl (by omega) (by omega) (fun h241 => ?_) (fun h241 => ?_)
      · refine e_aload_n 249 dX8_goesWord_248 rfl rfl ?_
        refine e_getr 252 dX8_goesWord_249 lf_X8_7 rfl rfl rfl (by decide) hr.ys ?_
        refine e_sipush 255 hsi_950 dX8_goesWord_252 rfl ?_
        refine e_sipush 258 hsi_300 dX8_goesWord_255 rfl ?_
        refine e_iload_n 259 dX8_goesWord_258 rfl rfl ?_
        first | refine e_imulN 260 dX8_goesWord_259 rfl ?_ | refine e_imul 260 dX8_goesWord_259 rfl ?_
        first | refine e_iaddN 261 dX8_goesWord_260 rfl ?_ | refine e_iadd 261 dX8_goesWord_260 rfl ?_
        refine e_bipush 263 hbi_100 dX8_goesWord_261 rfl ?_
        refine e_iload_n 264 dX8_goesWord_263 rfl rfl ?_
        first | refine e_imulN 265 dX8_goesWord_264 rfl ?_ | refine e_imul 265 dX8_goesWord_264 rfl ?_
        first | refine e_iaddN 266 dX8_goesWord_265 rfl ?_ | refine e_iadd 266 dX8_goesWord_265 rfl ?_
        refine e_aload_n 267 dX8_goesWord_266 rfl rfl ?_
        refine e_getr 270 dX8_goesWord_267 lf_X8_7 rfl rfl rfl (by decide) hr.ys ?_
        refine e_iconst 271 hic_0 dX8_goesWord_270 rfl ?_
        refine e_iald (v := nI y) 272 dX8_goesWord_271 rfl rfl (by decide) rfl (by show 0 < 2950; decide) ((hI3.2.1 0 (fun x g1 g2 => by unfold zAt; omega)).trans ((hI.2.1 0 (fun q x _ g1 g2 => by unfold zAt; omega)).trans hy0)) ?_
        first | refine e_iaddN 273 dX8_goesWord_272 rfl ?_ | refine e_iadd 273 dX8_goesWord_272 rfl ?_
        refine e_iconst 274 hic_2 dX8_goesWord_273 rfl ?_
        first | refine e_isubN 275 dX8_goesWord_274 rfl (by omega) ?_ | refine e_isub 275 dX8_goesWord_274 rfl ?_
        rw [show 950 + 300 * w + 100 * p + y - 2 = zYo w p (y - 2) from by unfold zYo; omega]
        refine e_iald (v := nI (yg p (y - 2))) 276 dX8_goesWord_275 rfl rfl (by decide) rfl (by show zYo w p (y - 2) < 2950; unfold zYo; omega) ((hI3.2.1 _ (fun x g1 g2 => by unfold zAt zYo; omega)).trans ((hI.2.1 _ (fun q x g0 g1 g2 => by unfold zAt zYo; omega)).trans (hyg p h179 (y - 2) (by omega)))) ?_
        first | rw [show nI 0 = nI (if 2 ≤ y then yg p (y - 2) else 0) from by rw [if_neg (by omega)]] | rw [show nI (yg p (y - 2)) = nI (if 2 ≤ y then yg p (y - 2) else 0) from by rw [if_pos (by omega)]]
        have hth : (if 2 ≤ y then yg p (y - 2) else 0) ≤ 1000 := by split <;> first | exact hyl p h179 _ (by omega) | exact Nat.zero_le _
        refine e_istore_n 277 dX8_goesWord_276 rfl (by decide) (zst1_3 rfl) ?_
        refine e_bipush 279 hbi_10 dX8_goesWord_277 rfl ?_
        refine e_istore 281 dX8_goesWord_279 rfl (by decide) (zst1_4 rfl) ?_
        have hu : zYd u3 Λ := hd.s hI3.1
        refine l_X8_gw4 G d Q hr hu hW (by omega) (by omega) (g0 := zGrow (sh p)) (by rw [hI3.1 235 (by decide), hI.1 235 (by decide)]; exact (hh p h179).1) (by rw [hI3.1 237 (by decide), hI.1 237 (by decide)]; exact (hpa p h179).1) hth (hh p h179).2 (hpa p h179).2 (zGrow_le (hle p h179)) 60 10 u3 _ (by decide) (by decide) ⟨zFs9.r u3, fun _ _ => rfl, fun x g1 g2 => by rw [hI3.2.2 x g1 g2]; exact congrArg nI (if_neg (by omega)).symm⟩ (fun u4 v5 h4 => ?_)
        refine e_iinc 461 dX8_goesWord_458 rfl (by decide) rfl (z_inc hii_1) (zst1_2 rfl) ?_
        refine e_goto 174 dX8_goesWord_461 (by decide) ?_
        exact ih (p + 1) u4 _ _ _ (by omega) (hI.st hP3 h179 ⟨h4.1.t hI3.1, fun j hj => (h4.2.1 j hj).trans (hI3.2.1 j hj), h4.2.2⟩) hQ
      · refine e_iconst 245 hic_0 dX8_goesWord_244 rfl ?_
        refine e_goto 276 dX8_goesWord_245 (by decide) ?_
        first | rw [show nI 0 = nI (if 2 ≤ y then yg p (y - 2) else 0) from by rw [if_neg (by omega)]] | rw [show nI (yg p (y - 2)) = nI (if 2 ≤ y then yg p (y - 2) else 0) from by rw [if_pos (by omega)]]
        have hth : (if 2 ≤ y then yg p (y - 2) else 0) ≤ 1000 := by split <;> first | exact hyl p h179 _ (by omega) | exact Nat.zero_le _
        refine e_istore_n 277 dX8_goesWord_276 rfl (by decide) (zst1_3 rfl) ?_
        refine e_bipush 279 hbi_10 dX8_goesWord_277 rfl ?_
        refine e_istore 281 dX8_goesWord_279 rfl (by decide) (zst1_4 rfl) ?_
        have hu : zYd u3 Λ := hd.s hI3.1
        refine l_X8_gw4 G d Q hr hu hW (by omega) (by omega) (g0 := zGrow (sh p)) (by rw [hI3.1 235 (by decide), hI.1 235 (by decide)]; exact (hh p h179).1) (by rw [hI3.1 237 (by decide), hI.1 237 (by decide)]; exact (hpa p h179).1) hth (hh p h179).2 (hpa p h179).2 (zGrow_le (hle p h179)) 60 10 u3 _ (by decide) (by decide) ⟨zFs9.r u3, fun _ _ => rfl, fun x g1 g2 => by rw [hI3.2.2 x g1 g2]; exact congrArg nI (if_neg (by omega)).symm⟩ (fun u4 v5 h4 => ?_)
        refine e_iinc 461 dX8_goesWord_458 rfl (by decide) rfl (z_inc hii_1) (zst1_2 rfl) ?_
        refine e_goto 174 dX8_goesWord_461 (by decide) ?_
        exact ih (p + 1) u4 _ _ _ (by omega) (hI.st hP3 h179 ⟨h4.1.t hI3.1, fun j hj => (h4.2.1 j hj).trans (hI3.2.1 j hj), h4.2.2⟩) hQ
