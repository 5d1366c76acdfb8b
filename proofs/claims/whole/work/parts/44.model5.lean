/-- the parents' measure, 0 of a plain word -/
def zPw (Λ : zLd) (w : Nat) (f : Nat → Nat) : Nat := if Λ 5 w = 0 then zPar f else 0
theorem zPw_le {Λ : zLd} {w : Nat} {f : Nat → Nat} (h : zLe f) : zPw Λ w f ≤ 1000 := by
  unfold zPw
  split
  · exact zPar_le h
  · exact Nat.zero_le _
def zFw (u mi : zFi) : Prop := ∀ q, q ≠ 235 → q ≠ 236 → q ≠ 237 → u q = mi q
theorem zFw.r (mi : zFi) : zFw mi mi := fun _ _ _ _ => rfl
theorem zFw.t {a b c : zFi} (h1 : zFw a b) (h2 : zFw b c) : zFw a c := fun q x y z => (h1 q x y z).trans (h2 q x y z)
theorem zFw.p {mi : zFi} {r k : Nat} {v : Int32} (hr : r = 235 ∨ r = 236 ∨ r = 237) : zFw (zp mi r k v) mi := fun q x y z => zp_r _ _ _ (by omega)
theorem zYd.w {u mi : zFi} {Λ : zLd} (h : zYd mi Λ) (e : zFw u mi) : zYd u Λ := by
  unfold zYd
  rw [e 224 (by decide) (by decide) (by decide), e 230 (by decide) (by decide) (by decide), e 231 (by decide) (by decide) (by decide), e 232 (by decide) (by decide) (by decide)]
  exact h
theorem zYsh.w {u mi : zFi} {N w : Nat} {sh : Nat → Nat → Nat} (h : zYsh (mi 225) N w sh) (e : zFw u mi) : zYsh (u 225) N w sh := by rw [e 225 (by decide) (by decide) (by decide)]; exact h
/-- the young and the parents of the places before p are set down -/
def zG1 (u : zFi) (Λ : zLd) (w : Nat) (sh : Nat → Nat → Nat) (p : Nat) : Prop := ∀ q, q < p → u 236 q = nI (zYoung (sh q)) ∧ u 237 q = nI (zPw Λ w (sh q))
theorem zG1.st {u : zFi} {Λ : zLd} {w p : Nat} {sh : Nat → Nat → Nat} (h : zG1 u Λ w sh p) {x : Nat} (hx : x = zPw Λ w (sh p)) : zG1 (zp (zp u 236 p (nI (zYoung (sh p)))) 237 p (nI x)) Λ w sh (p + 1) := fun q hq => by
  by_cases e : q = p
  · subst e
    rw [zp_r _ _ _ (by decide : (236 : Nat) ≠ 237), zp_s, zp_s, hx]
    exact ⟨rfl, rfl⟩
  · rw [zp_k _ _ e, zp_k _ _ e, zp_k _ _ e, zp_r _ _ _ (by decide : (237 : Nat) ≠ 236)]
    exact h q (by omega)
set_option maxHeartbeats 4000000 in
set_option maxRecDepth 100000 in
theorem l_X8_gw1 (G : zG) (d : Nat) (Q : zQ) {v3 v4 v5 : Value} {D E : Nat} {Λ : zLd} {mi : zFi} {ml : zFl} {mr : zFr} (hr : zRf mr D E) (hd0 : zYd mi Λ) (hW : zLandW Λ) {w : Nat} (hw : w < Λ 0 1) {sh : Nat → Nat → Nat} (hs0 : zYsh (mi 225) (Λ 0 0) w sh) (hle : ∀ p, p < Λ 0 0 → zLe (sh p)) : ∀ (k p : Nat) (u : zFi), p + k = Λ 0 0 → zFw u mi → zG1 u Λ w sh p → (∀ u2, zFw u2 mi → zG1 u2 Λ w sh (Λ 0 0) → zE G (zRm (d + 2) 238 238) (zQm G 238 238 Q) yX8_goesWord.cls yX8_goesWord.name cX8_goesWord 6 none 238 60 [.ref 224, .int (nI w), .int (nI (Λ 0 0)), v3, v4, v5] [] 238 u2 ml mr) → zE G (zRm (d + 2) 238 238) (zQm G 238 238 Q) yX8_goesWord.cls yX8_goesWord.name cX8_goesWord 6 none 238 2 [.ref 224, .int (nI w), .int (nI p), v3, v4, v5] [] 238 u ml mr := by
  intro k
  induction k with
  | zero =>
    intro p u h hf hI hQ
    have hd := hd0.w hf
    have hs := hs0.w hf
    have hP3 := hW.1.1
    have hW5 := hW.1.2.1
    refine e_iload_n 3 dX8_goesWord_2 rfl rfl ?_
    refine e_aload_n 4 dX8_goesWord_3 rfl rfl ?_
    refine e_geti 7 dX8_goesWord_4 lf_X8_138 rfl rfl rfl (by decide) hd.1.1 ?_
    refine e_icmp_geN 60 10 dX8_goesWord_7 (by decide) rfl (by omega) (by omega) (fun h7 => ?_) (fun h7 => ?_)
    · have e : p = Λ 0 0 := by omega
      subst e
      exact hQ u hf hI
    · exact absurd h7 (by omega)
  | succ k ih =>
    intro p u h hf hI hQ
    have hd := hd0.w hf
    have hs := hs0.w hf
    have hP3 := hW.1.1
    have hW5 := hW.1.2.1
    refine e_iload_n 3 dX8_goesWord_2 rfl rfl ?_
    refine e_aload_n 4 dX8_goesWord_3 rfl rfl ?_
    refine e_geti 7 dX8_goesWord_4 lf_X8_138 rfl rfl rfl (by decide) hd.1.1 ?_
    refine e_icmp_geN 60 10 dX8_goesWord_7 (by decide) rfl (by omega) (by omega) (fun h7 => ?_) (fun h7 => ?_)
    · exact absurd h7 (by omega)
    · refine e_aload_n 11 dX8_goesWord_10 rfl rfl ?_
      refine e_getr 14 dX8_goesWord_11 lf_X8_44 rfl rfl rfl (by decide) hr.yyo ?_
      refine e_iload_n 15 dX8_goesWord_14 rfl rfl ?_
      refine e_aload_n 16 dX8_goesWord_15 rfl rfl ?_
      refine e_iload_n 17 dX8_goesWord_16 rfl rfl ?_
      refine e_iload_n 18 dX8_goesWord_17 rfl rfl ?_
      refine e_iconst 19 hic_0 dX8_goesWord_18 rfl ?_
      refine c_Vqi 22 (ci := 8) dX8_goesWord_19 (k_X8_of G hr (hs p h7) (hle p h7) (by omega) (by omega) (by decide)) lm_X8_166 zi_yX8_of zs_yX8_of rfl rfl (by decide) rfl rfl rfl (Nat.le_of_ble_eq_true rfl) (Nat.le_of_ble_eq_true rfl) (Nat.le_of_ble_eq_true rfl) (by exact Nat.le_refl _) (by exact Nat.le_refl _) ?_
      rw [show zMeas 0 (sh p) = zYoung (sh p) from rfl]
      refine e_iast 23 dX8_goesWord_22 rfl rfl (by decide) rfl (by show p < 3; omega) ?_
      refine e_aload_n 24 dX8_goesWord_23 rfl rfl ?_
      refine e_getr 27 dX8_goesWord_24 lf_X8_47 rfl rfl rfl (by decide) hr.ypa ?_
      refine e_iload_n 28 dX8_goesWord_27 rfl rfl ?_
      refine e_aload_n 29 dX8_goesWord_28 rfl rfl ?_
      refine e_getr 32 dX8_goesWord_29 lf_X8_32 rfl rfl rfl (by decide) hr.yw ?_
      refine e_iconst 33 hic_4 dX8_goesWord_32 rfl ?_
      refine e_iload_n 34 dX8_goesWord_33 rfl rfl ?_
      first | refine e_imulN 35 dX8_goesWord_34 rfl ?_ | refine e_imul 35 dX8_goesWord_34 rfl ?_
      refine e_iconst 36 hic_3 dX8_goesWord_35 rfl ?_
      first | refine e_iaddN 37 dX8_goesWord_36 rfl ?_ | refine e_iadd 37 dX8_goesWord_36 rfl ?_
      refine e_iald (v := nI (Λ 5 w)) 38 dX8_goesWord_37 rfl rfl (by decide) rfl (by show _ < 40; omega) (by rw [zp_r _ _ _ (by decide)]; exact hd.2.2.2 w hw 3 (by decide)) ?_
      refine e_iconst 39 hic_1 dX8_goesWord_38 rfl ?_
      refine e_icmp_neN 46 42 dX8_goesWord_39 (by decide) rfl (by have := hW.2.2 w hw; omega) (by omega) (fun h39 => ?_) (fun h39 => ?_)
      · refine e_aload_n 47 dX8_goesWord_46 rfl rfl ?_
        refine e_iload_n 48 dX8_goesWord_47 rfl rfl ?_
        refine e_iload_n 49 dX8_goesWord_48 rfl rfl ?_
        refine e_iconst 50 hic_1 dX8_goesWord_49 rfl ?_
        refine c_Vqi 53 (ci := 8) dX8_goesWord_50 (k_X8_of G hr (f := sh p) (w := w) (p := p) (fun a g1 g2 => by rw [zp_r _ _ _ (by decide)]; exact hs p h7 a g1 g2) (hle p h7) (by omega) (by omega) (by decide)) lm_X8_166 zi_yX8_of zs_yX8_of rfl rfl (by decide) rfl rfl rfl (Nat.le_of_ble_eq_true rfl) (Nat.le_of_ble_eq_true rfl) (Nat.le_of_ble_eq_true rfl) (by exact Nat.le_refl _) (by exact Nat.le_refl _) ?_
        rw [show zMeas 1 (sh p) = zPar (sh p) from rfl]
        refine e_iast 54 dX8_goesWord_53 rfl rfl (by decide) rfl (by show p < 3; omega) ?_
        refine e_iinc 57 dX8_goesWord_54 rfl (by decide) rfl (z_inc hii_1) (zst1_2 rfl) ?_
        refine e_goto 2 dX8_goesWord_57 (by decide) ?_
        first
          | exact ih (p + 1) _ (by omega) ((zFw.p (Or.inr (Or.inr rfl))).t ((zFw.p (Or.inr (Or.inl rfl))).t hf)) (hI.st (x := 0) (by unfold zPw; rw [if_neg (by omega)])) hQ
          | exact ih (p + 1) _ (by omega) ((zFw.p (Or.inr (Or.inr rfl))).t ((zFw.p (Or.inr (Or.inl rfl))).t hf)) (hI.st (x := zPar (sh p)) (by unfold zPw; rw [if_pos (by have := (hW.2.2 w hw).2.2.2; omega)])) hQ
      · refine e_iconst 43 hic_0 dX8_goesWord_42 rfl ?_
        refine e_goto 53 dX8_goesWord_43 (by decide) ?_
        refine e_iast 54 dX8_goesWord_53 rfl rfl (by decide) rfl (by show p < 3; omega) ?_
        refine e_iinc 57 dX8_goesWord_54 rfl (by decide) rfl (z_inc hii_1) (zst1_2 rfl) ?_
        refine e_goto 2 dX8_goesWord_57 (by decide) ?_
        first
          | exact ih (p + 1) _ (by omega) ((zFw.p (Or.inr (Or.inr rfl))).t ((zFw.p (Or.inr (Or.inl rfl))).t hf)) (hI.st (x := 0) (by unfold zPw; rw [if_neg (by omega)])) hQ
          | exact ih (p + 1) _ (by omega) ((zFw.p (Or.inr (Or.inr rfl))).t ((zFw.p (Or.inr (Or.inl rfl))).t hf)) (hI.st (x := zPar (sh p)) (by unfold zPw; rw [if_pos (by have := (hW.2.2 w hw).2.2.2; omega)])) hQ
def zOnE (u mi : zFi) : Prop := ∀ q, q ≠ 235 → u q = mi q
theorem zOnE.w {u mi : zFi} (h : zOnE u mi) : zFw u mi := fun q x _ _ => h q x
theorem zOnE.p {u mi : zFi} {k : Nat} {v : Int32} (h : zOnE u mi) : zOnE (zp u 235 k v) mi := fun q hq => (zp_r _ _ _ hq).trans (h q hq)
set_option maxHeartbeats 4000000 in
set_option maxRecDepth 100000 in
theorem m_X8_gw2 (G : zG) (d : Nat) (Q : zQ) {v4 v5 : Value} {D E : Nat} {Λ : zLd} {mi : zFi} {ml : zFl} {mr : zFr} (hr : zRf mr D E) (hd0 : zYd mi Λ) (hW : zLandW Λ) {w : Nat} {yv : Nat → Nat} (hyv : ∀ q, q < Λ 0 0 → mi 236 q = nI (yv q)) (hyl : ∀ q, q < Λ 0 0 → yv q ≤ 1000) {p : Nat} (hp : p < Λ 0 0) {u0 : zFi} : ∀ (k q s : Nat) (u : zFi), q + k = Λ 0 0 → zOnE u mi → u 235 p = nI s → (∀ j, j ≠ p → u 235 j = u0 235 j) → s + zsum (zHearT (Λ 1) yv p) q k ≤ 9999 → (∀ u2, zOnE u2 mi → u2 235 p = nI (s + zsum (zHearT (Λ 1) yv p) q k) → (∀ j, j ≠ p → u2 235 j = u0 235 j) → zE G (zRm (d + 2) 238 238) (zQm G 238 238 Q) yX8_goesWord.cls yX8_goesWord.name cX8_goesWord 6 none 238 136 [.ref 224, .int (nI w), .int (nI p), .int (nI (Λ 0 0)), v4, v5] [] 238 u2 ml mr) → zE G (zRm (d + 2) 238 238) (zQm G 238 238 Q) yX8_goesWord.cls yX8_goesWord.name cX8_goesWord 6 none 238 84 [.ref 224, .int (nI w), .int (nI p), .int (nI q), v4, v5] [] 238 u ml mr := by
  intro k
  induction k with
  | zero =>
    intro q s u h hf hs ho hb hQ
    have hd := hd0.w hf.w
    have hP3 := hW.1.1
    refine e_iload_n 85 dX8_goesWord_84 rfl rfl ?_
    refine e_aload_n 86 dX8_goesWord_85 rfl rfl ?_
    refine e_geti 89 dX8_goesWord_86 lf_X8_138 rfl rfl rfl (by decide) hd.1.1 ?_
    refine e_icmp_geN 136 92 dX8_goesWord_89 (by decide) rfl (by omega) (by omega) (fun h89 => ?_) (fun h89 => ?_)
    · have e : q = Λ 0 0 := by omega
      subst e
      exact hQ u hf hs ho
    · exact absurd h89 (by omega)
  | succ k ih =>
    intro q s u h hf hs ho hb hQ
    have hd := hd0.w hf.w
    have hP3 := hW.1.1
    refine e_iload_n 85 dX8_goesWord_84 rfl rfl ?_
    refine e_aload_n 86 dX8_goesWord_85 rfl rfl ?_
    refine e_geti 89 dX8_goesWord_86 lf_X8_138 rfl rfl rfl (by decide) hd.1.1 ?_
    refine e_icmp_geN 136 92 dX8_goesWord_89 (by decide) rfl (by omega) (by omega) (fun h89 => ?_) (fun h89 => ?_)
    · exact absurd h89 (by omega)
    · refine e_aload_n 93 dX8_goesWord_92 rfl rfl ?_
      refine e_getr 96 dX8_goesWord_93 lf_X8_41 rfl rfl rfl (by decide) hr.yhe ?_
      refine e_iload_n 97 dX8_goesWord_96 rfl rfl ?_
      refine e_dup2 98 dX8_goesWord_97 rfl rfl rfl ?_
      refine e_iald 99 dX8_goesWord_98 rfl rfl (by decide) rfl (by show p < 3; omega) hs ?_
      refine e_iload_n 100 dX8_goesWord_99 rfl rfl ?_
      refine e_iload_n 101 dX8_goesWord_100 rfl rfl ?_
      refine e_icmp_neN 108 104 dX8_goesWord_101 (by decide) rfl (by omega) (by omega) (fun h101 => ?_) (fun h101 => ?_)
      · have hz : nI (Λ 1 (3 * p + q) * yv q / 10) = nI ((zHearT (Λ 1) yv p) q) := by unfold zHearT; rw [if_neg (by omega)]
        refine e_aload_n 109 dX8_goesWord_108 rfl rfl ?_
        refine e_getr 112 dX8_goesWord_109 lf_X8_29 rfl rfl rfl (by decide) hr.yn ?_
        refine e_iconst 113 hic_3 dX8_goesWord_112 rfl ?_
        refine e_iload_n 114 dX8_goesWord_113 rfl rfl ?_
        first | refine e_imulN 115 dX8_goesWord_114 rfl ?_ | refine e_imul 115 dX8_goesWord_114 rfl ?_
        refine e_iload_n 116 dX8_goesWord_115 rfl rfl ?_
        first | refine e_iaddN 117 dX8_goesWord_116 rfl ?_ | refine e_iadd 117 dX8_goesWord_116 rfl ?_
        refine e_iald (v := nI (Λ 1 (3 * p + q))) 118 dX8_goesWord_117 rfl rfl (by decide) rfl (by show _ < 18; omega) (hd.2.2.1 _ (by omega)) ?_
        refine e_aload_n 119 dX8_goesWord_118 rfl rfl ?_
        refine e_getr 122 dX8_goesWord_119 lf_X8_44 rfl rfl rfl (by decide) hr.yyo ?_
        refine e_iload_n 123 dX8_goesWord_122 rfl rfl ?_
        refine e_iald (v := nI (yv q)) 124 dX8_goesWord_123 rfl rfl (by decide) rfl (by show q < 3; omega) (by rw [hf 236 (by decide)]; exact hyv q h89) ?_
        first | refine e_imulN 125 dX8_goesWord_124 rfl ?_ | refine e_imul 125 dX8_goesWord_124 rfl ?_
        refine e_bipush 127 hbi_10 dX8_goesWord_125 rfl ?_
        refine e_idivN 128 dX8_goesWord_127 rfl (by have g1 := hW.2.1 (3 * p + q) (by omega); have g2 := hyl q h89; have g3 := Nat.mul_le_mul g1 g2; omega) (by omega) (by omega) ?_
        rw [hz]
        first | refine e_iaddN 129 dX8_goesWord_128 rfl ?_ | refine e_iadd 129 dX8_goesWord_128 rfl ?_
        refine e_iast 130 dX8_goesWord_129 rfl rfl (by decide) rfl (by show p < 3; omega) ?_
        refine e_iinc 133 dX8_goesWord_130 rfl (by decide) rfl (z_inc hii_1) (zst1_3 rfl) ?_
        refine e_goto 84 dX8_goesWord_133 (by decide) ?_
        exact ih (q + 1) _ _ (by omega) hf.p (zp_s _ _ _ _) (fun j hj => (zp_k _ _ hj).trans (ho j hj)) (by have e0 : zsum (zHearT (Λ 1) yv p) q (k + 1) = (zHearT (Λ 1) yv p) q + zsum (zHearT (Λ 1) yv p) (q + 1) k := rfl; omega) (fun u2 g1 g2 g3 => hQ u2 g1 (by rw [g2]; congr 1; have e0 : zsum (zHearT (Λ 1) yv p) q (k + 1) = (zHearT (Λ 1) yv p) q + zsum (zHearT (Λ 1) yv p) (q + 1) k := rfl; omega) g3)
      · have hz : nI 0 = nI ((zHearT (Λ 1) yv p) q) := by unfold zHearT; rw [if_pos (by omega)]
        refine e_iconst 105 hic_0 dX8_goesWord_104 rfl ?_
        refine e_goto 128 dX8_goesWord_105 (by decide) ?_
        rw [hz]
        first | refine e_iaddN 129 dX8_goesWord_128 rfl ?_ | refine e_iadd 129 dX8_goesWord_128 rfl ?_
        refine e_iast 130 dX8_goesWord_129 rfl rfl (by decide) rfl (by show p < 3; omega) ?_
        refine e_iinc 133 dX8_goesWord_130 rfl (by decide) rfl (z_inc hii_1) (zst1_3 rfl) ?_
        refine e_goto 84 dX8_goesWord_133 (by decide) ?_
        exact ih (q + 1) _ _ (by omega) hf.p (zp_s _ _ _ _) (fun j hj => (zp_k _ _ hj).trans (ho j hj)) (by have e0 : zsum (zHearT (Λ 1) yv p) q (k + 1) = (zHearT (Λ 1) yv p) q + zsum (zHearT (Λ 1) yv p) (q + 1) k := rfl; omega) (fun u2 g1 g2 g3 => hQ u2 g1 (by rw [g2]; congr 1; have e0 : zsum (zHearT (Λ 1) yv p) q (k + 1) = (zHearT (Λ 1) yv p) q + zsum (zHearT (Λ 1) yv p) (q + 1) k := rfl; omega) g3)
