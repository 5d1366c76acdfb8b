theorem zLive_fine {T S : zLd} {learn w : Nat} : ∀ y, zFine (T 0 0) y (zLive T S learn w y)
  | 0 => zNote_fine
  | _ + 1 => zNote_fine
/-- a moment gone on to from year 0 with the songs S -/
def zLvM (Λ S : zLd) (lot : Int32) (y : Nat) : zMo := (y, lot, S, fun w => zLive Λ S (Λ 0 3) w y)
theorem zLvM_W {Λ S : zLd} {lot : Int32} {y : Nat} (hW : zLandW Λ) (hS : zSongW (Λ 0 0) (Λ 0 1) S) (hy : y ≤ 99) : zMoW Λ (zLvM Λ S lot y) := ⟨hy, hS, fun w _ => ⟨zLive_W hW hS hW.1.2.2.2.1 y, zLive_fine y⟩⟩
/-- the reference's other cells do not speak of the row -/
theorem zY.mom {mi u : zFi} {ml : zFl} {Λ : zLd} {late : Nat} {tr : Int64} {t : zTx} {m m' : zMo} {im : Nat → Nat × zMo} {l : zLt} {r : zWr} (h : zY mi ml Λ late tr t m im l r) (e : zFrm u mi) (hs : zYs (u 225) Λ m') : zY u ml Λ late tr t m' im l r := by
  obtain ⟨h1, h2, h3, h4, h5, h6, h7, h8⟩ := h
  have e0 : u 224 = mi 224 := e 224 (by decide) (by decide) (by decide) (by decide)
  refine ⟨h1.v e, by rw [e 230 (by decide) (by decide) (by decide) (by decide)]; exact h2, h3, ?_, hs, ?_, ?_, ?_⟩
  · unfold zYt; rw [e0, e 229 (by decide) (by decide) (by decide) (by decide)]; exact h4
  · unfold zYi; rw [e 228 (by decide) (by decide) (by decide) (by decide), e 227 (by decide) (by decide) (by decide) (by decide)]; exact h6
  · unfold zYl; rw [e0, e 233 (by decide) (by decide) (by decide) (by decide)]; exact h7
  · unfold zYw; rw [e0, e 234 (by decide) (by decide) (by decide) (by decide)]; exact h8
theorem zY.th {mi : zFi} {ml : zFl} {Λ : zLd} {late : Nat} {tr : Int64} {t : zTx} {m : zMo} {im : Nat → Nat × zMo} {l : zLt} {r : zWr} {k : Nat} {v : Int32} (h : zY mi ml Λ late tr t m im l r) (hk : k = 0 ∨ k = 8 ∨ k = 9 ∨ k = 10 ∨ k = 11 ∨ k = 12 ∨ (18 ≤ k ∧ k ≤ 21) ∨ k = 29 ∨ k = 30) : zY (zp mi 224 k v) ml Λ late tr t m im l r := by
  obtain ⟨⟨⟨a1, a2⟩, a3⟩, h2, h3, ⟨b1, b2⟩, h5, h6, ⟨c1, c2⟩, ⟨d1, d2⟩⟩ := h
  have e : ∀ q, q ≠ 224 → zp mi 224 k v q = mi q := fun q hq => zp_r _ _ _ hq
  refine ⟨⟨⟨?_, ?_⟩, ?_⟩, ?_, h3, ⟨?_, ?_⟩, ?_, ?_, ⟨?_, ?_⟩, ⟨?_, ?_⟩⟩
  · rw [zp_k _ _ (by omega)]; exact a1
  · rw [zp_k _ _ (by omega)]; exact a2
  · rw [e 230 (by decide), e 231 (by decide), e 232 (by decide)]; exact a3
  · rw [e 230 (by decide)]; exact h2
  · rw [zp_k _ _ (by omega)]; exact b1
  · rw [e 229 (by decide)]; exact b2
  · rw [e 225 (by decide)]; exact h5
  · unfold zYi; rw [e 228 (by decide), e 227 (by decide)]; exact h6
  · rw [zp_k _ _ (by omega)]; exact c1
  · rw [e 233 (by decide)]; exact c2
  · rw [zp_k _ _ (by omega)]; exact d1
  · rw [e 234 (by decide)]; exact d2
set_option maxHeartbeats 4000000 in
set_option maxRecDepth 100000 in
theorem l_X8_goesTo (G : zG) (d : Nat) (Q : zQ) {D E : Nat} {Λ S : zLd} {mi : zFi} {ml : zFl} {mr : zFr} (hr : zRf mr D E) (hd0 : zYd mi Λ) (hW : zLandW Λ) (hSW : zSongW (Λ 0 0) (Λ 0 1) S) {lot : Int32} {year : Nat} (hyr : year ≤ 99) : ∀ (k y : Nat) (u : zFi), y + k = year → zFrm u mi → zYs (u 225) Λ (zLvM Λ S lot y) → (∀ u2, zFrm u2 mi → zYs (u2 225) Λ (zLvM Λ S lot year) → Q none u2 ml mr) → zE G (zRm (d + 6) 238 238) (zQm G 238 238 Q) yX8_goesTo.cls yX8_goesTo.name cX8_goesTo 2 none 238 4 [.ref 224, .int (nI year)] [] 238 u ml mr := by
  intro k
  induction k with
  | zero =>
    intro y u h hf hs hQ
    have hd := hd0.v hf
    refine e_aload_n 5 dX8_goesTo_4 rfl rfl ?_
    refine e_getr 8 dX8_goesTo_5 lf_X8_7 rfl rfl rfl (by decide) hr.ys ?_
    refine e_iconst 9 hic_0 dX8_goesTo_8 rfl ?_
    refine e_iald (v := nI y) 10 dX8_goesTo_9 rfl rfl (by decide) rfl (by show 0 < 2950; decide) hs.1 ?_
    refine e_iload_n 11 dX8_goesTo_10 rfl rfl ?_
    refine e_icmp_geN 21 14 dX8_goesTo_11 (by decide) rfl (by omega) (by omega) (fun h11 => ?_) (fun h11 => ?_)
    · refine e_vreturn dX8_goesTo_21 rfl ?_
      have e : y = year := by omega
      subst e
      exact hQ u hf hs
    · exact absurd h11 (by omega)
  | succ k ih =>
    intro y u h hf hs hQ
    have hd := hd0.v hf
    refine e_aload_n 5 dX8_goesTo_4 rfl rfl ?_
    refine e_getr 8 dX8_goesTo_5 lf_X8_7 rfl rfl rfl (by decide) hr.ys ?_
    refine e_iconst 9 hic_0 dX8_goesTo_8 rfl ?_
    refine e_iald (v := nI y) 10 dX8_goesTo_9 rfl rfl (by decide) rfl (by show 0 < 2950; decide) hs.1 ?_
    refine e_iload_n 11 dX8_goesTo_10 rfl rfl ?_
    refine e_icmp_geN 21 14 dX8_goesTo_11 (by decide) rfl (by omega) (by omega) (fun h11 => ?_) (fun h11 => ?_)
    · exact absurd h11 (by omega)
    · refine e_aload_n 15 dX8_goesTo_14 rfl rfl ?_
      refine c_Vv 18 (ci := 8) dX8_goesTo_15 (k_X8_goesBy G hr hd hW hs (zLvM_W hW hSW (by omega)) (show y < 99 by omega)) lm_X8_187 zi_yX8_goesBy zs_yX8_goesBy rfl rfl (by decide) rfl rfl rfl (Nat.le_of_ble_eq_true rfl) (Nat.le_of_ble_eq_true rfl) (Nat.le_of_ble_eq_true rfl) (by exact Nat.le_refl _) (by exact Nat.le_refl _) ?_
      rintro u2 _ _ ⟨f2, s2, rfl, rfl⟩
      refine e_goto 4 dX8_goesTo_18 (by decide) ?_
      exact ih (y + 1) u2 (by omega) (f2.t hf) s2 hQ
set_option maxHeartbeats 4000000 in
set_option maxRecDepth 100000 in
theorem k_X8_goesTo (G : zG) {D E : Nat} {Λ S : zLd} {mi : zFi} {ml : zFl} {mr : zFr} (hr : zRf mr D E) (hd0 : zYd mi Λ) (hW : zLandW Λ) (hSW : zSongW (Λ 0 0) (Λ 0 1) S) {lot : Int32} {year : Nat} (hyr : year ≤ 99) (hS0 : zYsg (mi 225) S) (hlot : mi 225 1 = lot) : zMet G 6 yX8_goesTo cX8_goesTo 2 none [.ref 224, .int (nI year)] 238 mi ml mr 238 (zPv fun u b c => zFrm u mi ∧ zYs (u 225) Λ (zLvM Λ S lot year) ∧ b = ml ∧ c = mr) := by
  refine z_intro ([.ref 224, .int (nI year)]) (by decide) rfl (Nat.le_of_ble_eq_true rfl) ?_
  refine e_aload_n 1 dX8_goesTo_0 rfl rfl ?_
  refine c_Vv 4 (ci := 8) dX8_goesTo_1 (k_X8_begins G hr hd0 hW hS0 hSW) lm_X8_150 zi_yX8_begins zs_yX8_begins rfl rfl (by decide) rfl rfl rfl (Nat.le_of_ble_eq_true rfl) (Nat.le_of_ble_eq_true rfl) (Nat.le_of_ble_eq_true rfl) (by exact Nat.le_refl _) (by exact Nat.le_refl _) ?_
  rintro u1 _ _ ⟨f1, e1, y1, s1, rfl, rfl⟩
  exact l_X8_goesTo G 0 _ hr hd0 hW hSW hyr year 0 u1 (by omega) f1.v ⟨y1, (e1 1 (by decide) (by decide)).trans hlot, hS0.c hSW.1 e1, s1⟩ (fun u2 g1 g2 => ⟨rfl, g1, g2, rfl, rfl⟩)

