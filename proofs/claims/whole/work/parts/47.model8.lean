def zFrm (u mi : zFi) : Prop := ∀ q, q ≠ 225 → q ≠ 235 → q ≠ 236 → q ≠ 237 → u q = mi q
theorem zFrm.r (mi : zFi) : zFrm mi mi := fun _ _ _ _ _ => rfl
theorem zFrm.t {a b c : zFi} (h1 : zFrm a b) (h2 : zFrm b c) : zFrm a c := fun q w x y z => (h1 q w x y z).trans (h2 q w x y z)
theorem zFw.v {u mi : zFi} (h : zFw u mi) : zFrm u mi := fun q _ x y z => h q x y z
theorem zFs9.v {u mi : zFi} (h : zFs9 u mi) : zFrm u mi := fun q w _ _ _ => h q w
theorem zYd.v {u mi : zFi} {Λ : zLd} (h : zYd mi Λ) (e : zFrm u mi) : zYd u Λ := by
  unfold zYd
  rw [e 224 (by decide) (by decide) (by decide) (by decide), e 230 (by decide) (by decide) (by decide) (by decide), e 231 (by decide) (by decide) (by decide) (by decide), e 232 (by decide) (by decide) (by decide) (by decide)]
  exact h
theorem zHear_c {nr yv yv' : Nat → Nat} {p N : Nat} (h : ∀ q, q < N → yv q = yv' q) (hp : p < N) : zHear nr yv p N = zHear nr yv' p N := by
  have e : zsum (zHearT nr yv p) 0 N = zsum (zHearT nr yv' p) 0 N := by
    apply zsum_congr
    intro q _ hq
    unfold zHearT
    rw [h q (by omega)]
  unfold zHear
  rw [h p hp, e]
theorem zPassRow_g {Λ : zLd} {w y p : Nat} {yg sh : Nat → Nat → Nat} (hfine : ∀ q, q < Λ 0 0 → yg q y = zYoung (sh q)) (hp : p < Λ 0 0) : zAgR (Λ 0 2 * zHear (Λ 1) (fun q => zYoung (sh q)) p (Λ 0 0)) (zPw Λ w (sh p)) (Λ 0 4 * zPw Λ w (sh p)) (Λ 0 3 * (if 2 ≤ y then yg p (y - 2) else 0)) (zGrow (sh p)) = zPassRow Λ (Λ 0 3) w y yg p (sh p) := by
  unfold zAgR zPassRow zPw
  rw [zHear_c (yv := fun q => yg q y) (yv' := fun q => zYoung (sh q)) hfine hp]
/-- a word's rows are new, all else is as it was -/
def zGwR (mi u : zFi) (N w : Nat) (R : Nat → Nat → Nat) : Prop := zFrm u mi ∧ (∀ j, (∀ q x, q < N → 10 ≤ x → x ≤ 69 → j ≠ zAt w q x) → u 225 j = mi 225 j) ∧ ∀ q, q < N → ∀ x, 10 ≤ x → x ≤ 69 → u 225 (zAt w q x) = nI (R q x)
set_option maxHeartbeats 4000000 in
set_option maxRecDepth 100000 in
theorem k_X8_goesWord (G : zG) {D E : Nat} {Λ : zLd} {mi : zFi} {ml : zFl} {mr : zFr} (hr : zRf mr D E) (hd : zYd mi Λ) (hW : zLandW Λ) {w y : Nat} (hw : w < Λ 0 1) (hy0 : mi 225 0 = nI y) (hy : y ≤ 99) {sh yg : Nat → Nat → Nat} (hs : zYsh (mi 225) (Λ 0 0) w sh) (hle : ∀ q, q < Λ 0 0 → zLe (sh q)) (hyg : ∀ q, q < Λ 0 0 → ∀ t, t ≤ y → mi 225 (zYo w q t) = nI (yg q t)) (hyl : ∀ q, q < Λ 0 0 → ∀ t, t ≤ y → yg q t ≤ 1000) (hfine : ∀ q, q < Λ 0 0 → yg q y = zYoung (sh q)) : zMet G 2 yX8_goesWord cX8_goesWord 6 none [.ref 224, .int (nI w)] 238 mi ml mr 238 (zPv fun u b c => zGwR mi u (Λ 0 0) w (fun q => zPassRow Λ (Λ 0 3) w y yg q (sh q)) ∧ b = ml ∧ c = mr) := by
  refine z_intro ([.ref 224, .int (nI w), zx, zx, zx, zx]) (by decide) rfl (Nat.le_of_ble_eq_true rfl) ?_
  refine e_iconst 1 hic_0 dX8_goesWord_0 rfl ?_
  refine e_istore_n 2 dX8_goesWord_1 rfl (by decide) (zst1_2 rfl) ?_
  refine l_X8_gw1 G 0 _ hr hd hW hw hs hle (Λ 0 0) 0 mi (by omega) (zFw.r mi) (fun q hq => absurd hq (Nat.not_lt_zero _)) (fun u1 f1 i1 => ?_)
  refine e_iconst 61 hic_0 dX8_goesWord_60 rfl ?_
  refine e_istore_n 62 dX8_goesWord_61 rfl (by decide) (zst1_2 rfl) ?_
  refine l_X8_gw2 G 0 _ hr (hd.w f1) hW (yv := fun q => zYoung (sh q)) (fun q hq => (i1 q hq).1) (fun q hq => zYoung_le (hle q hq)) (Λ 0 0) 0 u1 _ (by omega) (fun _ _ => rfl) (fun q hq => absurd hq (Nat.not_lt_zero _)) (fun u2 v3 f2 i2 => ?_)
  refine e_iconst 173 hic_0 dX8_goesWord_172 rfl ?_
  refine e_istore_n 174 dX8_goesWord_173 rfl (by decide) (zst1_2 rfl) ?_
  have f3 : zFw u2 mi := f2.w.t f1
  have e5 : u2 225 = mi 225 := f3 225 (by decide) (by decide) (by decide)
  refine l_X8_gw5 G 0 _ hr (hd.w f3) hW hw (y := y) (by rw [e5]; exact hy0) hy (sh := sh) (yg := yg) (he := fun q => zHear (Λ 1) (fun q => zYoung (sh q)) q (Λ 0 0)) (par := fun q => zPw Λ w (sh q)) hle (by rw [e5]; exact hyg) hyl (fun q hq => ⟨i2 q hq, zHear_le⟩) (fun q hq => ⟨by rw [f2 237 (by decide)]; exact (i1 q hq).2, zPw_le (hle q hq)⟩) (Λ 0 0) 0 u2 _ _ _ (by omega) ⟨zFs9.r u2, fun _ _ => rfl, fun q hq x g1 g2 => by rw [if_neg (Nat.not_lt_zero q), e5]; exact hs q hq x g1 g2⟩ (fun u3 h3 => ?_)
  refine ⟨rfl, ⟨h3.1.v.t f3.v, fun j hj => (h3.2.1 j hj).trans (by rw [e5]), fun q hq x g1 g2 => ?_⟩, rfl, rfl⟩
  rw [h3.2.2 q hq x g1 g2, if_pos hq]
  exact congrArg nI (congrFun (zPassRow_g hfine hq) x)

/-- the words before w are a year on -/
def zPsW (Λ : zLd) (y : Nat) (X : Nat → zSt) (w : Nat) : Nat → Nat → Nat → Nat := fun v => if v < w then zPassSh Λ (Λ 0 3) v y (X v).2.1 (X v).1 else (X v).1
def zByI (mi u : zFi) (Λ : zLd) (sh : Nat → Nat → Nat → Nat) : Prop := zFrm u mi ∧ (∀ k, k < 50 ∨ 950 ≤ k → u 225 k = mi 225 k) ∧ ∀ v, v < Λ 0 1 → zYsh (u 225) (Λ 0 0) v (sh v)
theorem zByI.e {mi u : zFi} {Λ : zLd} {sh sh' : Nat → Nat → Nat → Nat} (h : zByI mi u Λ sh) (e : ∀ v, v < Λ 0 1 → sh v = sh' v) : zByI mi u Λ sh' := ⟨h.1, h.2.1, fun v hv => by rw [← e v hv]; exact h.2.2 v hv⟩
theorem zPsW_s {Λ : zLd} {y w : Nat} {X : Nat → zSt} (v : Nat) (h : v ≠ w) : zPsW Λ y X w v = zPsW Λ y X (w + 1) v := by
  unfold zPsW
  by_cases z : v < w
  · rw [if_pos z, if_pos (by omega)]
  · rw [if_neg z, if_neg (by omega)]
theorem zPsW_w (Λ : zLd) (y w : Nat) (X : Nat → zSt) : zPsW Λ y X w w = (X w).1 := if_neg (Nat.lt_irrefl w)
theorem zPsW_z {Λ : zLd} {y w : Nat} {X : Nat → zSt} : zPsW Λ y X (w + 1) w = zPassSh Λ (Λ 0 3) w y (X w).2.1 (X w).1 := if_pos (Nat.lt_succ_self w)
theorem zPsW_n {mi u : zFi} {Λ : zLd} {y w : Nat} {X : Nat → zSt} (hc : ¬ Λ 3 w ≤ y) (h : zByI mi u Λ (zPsW Λ y X w)) : zByI mi u Λ (zPsW Λ y X (w + 1)) := by
  refine h.e (fun v hv => ?_)
  by_cases e : v = w
  · subst e
    rw [zPsW_w, zPsW_z]
    funext p
    unfold zPassSh
    rw [if_neg hc]
  · exact zPsW_s v e
theorem zPsW_y {mi u u2 : zFi} {Λ : zLd} {y w : Nat} {X : Nat → zSt} (hW : zLandW Λ) (hw : w < Λ 0 1) (hc : Λ 3 w ≤ y) (h : zByI mi u Λ (zPsW Λ y X w)) (h2 : zGwR u u2 (Λ 0 0) w (fun q => zPassRow Λ (Λ 0 3) w y (X w).2.1 q ((X w).1 q))) : zByI mi u2 Λ (zPsW Λ y X (w + 1)) := by
  have hP3 := hW.1.1
  have hW5 := hW.1.2.1
  refine ⟨h2.1.t h.1, fun k hk => (h2.2.1 k (fun q x g0 g1 g2 => by unfold zAt; omega)).trans (h.2.1 k hk), fun v hv q hq a g1 g2 => ?_⟩
  by_cases e : v = w
  · subst e
    rw [zPsW_z]
    have e9 : zPassSh Λ (Λ 0 3) v y (X v).2.1 (X v).1 q a = zPassRow Λ (Λ 0 3) v y (X v).2.1 q ((X v).1 q) a := by unfold zPassSh; rw [if_pos hc]
    rw [e9]
    exact h2.2.2 q hq a g1 g2
  · rw [← zPsW_s v e, h2.2.1 _ (fun p x k0 k1 k2 => by unfold zAt; omega)]
    exact h.2.2 v hv q hq a g1 g2
set_option maxHeartbeats 4000000 in
set_option maxRecDepth 100000 in
theorem l_X8_goesBy (G : zG) (d : Nat) (Q : zQ) {D E : Nat} {Λ : zLd} {m : zMo} {mi : zFi} {ml : zFl} {mr : zFr} (hr : zRf mr D E) (hd0 : zYd mi Λ) (hW : zLandW Λ) (hs : zYs (mi 225) Λ m) (hm : zMoW Λ m) (hy9 : m.1 < 99) : ∀ (k w : Nat) (u : zFi), w + k = Λ 0 1 → zByI mi u Λ (zPsW Λ m.1 m.2.2.2 w) → (∀ u2, zByI mi u2 Λ (zPsW Λ m.1 m.2.2.2 (Λ 0 1)) → zE G (zRm (d + 5) 238 238) (zQm G 238 238 Q) yX8_goesBy.cls yX8_goesBy.name cX8_goesBy 2 none 238 29 [.ref 224, .int (nI (Λ 0 1))] [] 238 u2 ml mr) → zE G (zRm (d + 5) 238 238) (zQm G 238 238 Q) yX8_goesBy.cls yX8_goesBy.name cX8_goesBy 2 none 238 2 [.ref 224, .int (nI w)] [] 238 u ml mr := by
  intro k
  induction k with
  | zero =>
    intro w u h hI hQ
    have hd := hd0.v hI.1
    have hP3 := hW.1.1
    have hW5 := hW.1.2.1
    have hy1 := (hI.2.1 0 (by omega)).trans hs.1
    refine e_iload_n 3 dX8_goesBy_2 rfl rfl ?_
    refine e_aload_n 4 dX8_goesBy_3 rfl rfl ?_
    refine e_geti 7 dX8_goesBy_4 lf_X8_141 rfl rfl rfl (by decide) hd.1.2 ?_
    refine e_icmp_geN 29 10 dX8_goesBy_7 (by decide) rfl (by omega) (by omega) (fun h7 => ?_) (fun h7 => ?_)
    · have e : w = Λ 0 1 := by omega
      subst e
      exact hQ u hI
    · exact absurd h7 (by omega)
  | succ k ih =>
    intro w u h hI hQ
    have hd := hd0.v hI.1
    have hP3 := hW.1.1
    have hW5 := hW.1.2.1
    have hy1 := (hI.2.1 0 (by omega)).trans hs.1
    refine e_iload_n 3 dX8_goesBy_2 rfl rfl ?_
    refine e_aload_n 4 dX8_goesBy_3 rfl rfl ?_
    refine e_geti 7 dX8_goesBy_4 lf_X8_141 rfl rfl rfl (by decide) hd.1.2 ?_
    refine e_icmp_geN 29 10 dX8_goesBy_7 (by decide) rfl (by omega) (by omega) (fun h7 => ?_) (fun h7 => ?_)
    · exact absurd h7 (by omega)
    · refine e_aload_n 11 dX8_goesBy_10 rfl rfl ?_
      refine e_iload_n 12 dX8_goesBy_11 rfl rfl ?_
      refine c_Vqi 15 (ci := 8) dX8_goesBy_12 (k_X8_isCoined G hr hd hW h7 hy1 hm.1) lm_X8_159 zi_yX8_isCoined zs_yX8_isCoined rfl rfl (by decide) rfl rfl rfl (Nat.le_of_ble_eq_true rfl) (Nat.le_of_ble_eq_true rfl) (Nat.le_of_ble_eq_true rfl) (by exact Nat.le_refl _) (by exact Nat.le_refl _) ?_
      refine e_if_eq 23 18 dX8_goesBy_15 (by decide) rfl (fun h15 => ?_) (fun h15 => ?_)
      · have h15 := zB_0 h15
        refine e_iinc 26 dX8_goesBy_23 rfl (by decide) rfl (z_inc hii_1) (zst1_1 rfl) ?_
        refine e_goto 2 dX8_goesBy_26 (by decide) ?_
        first
          | exact ih (w + 1) _ (by omega) (zPsW_y hW h7 h15 hI h2) hQ
          | exact ih (w + 1) u (by omega) (zPsW_n h15 hI) hQ
      · have h15 := zB_1 h15
        have hrow := hI.2.2 w h7
        rw [zPsW_w] at hrow
        have hmw := hm.2.2 w h7
        refine e_aload_n 19 dX8_goesBy_18 rfl rfl ?_
        refine e_iload_n 20 dX8_goesBy_19 rfl rfl ?_
        refine c_Vv 23 (ci := 8) dX8_goesBy_20 (k_X8_goesWord G hr hd hW h7 hy1 hm.1 (yg := (m.2.2.2 w).2.1) hrow hmw.1.1 (fun q hq t ht => by rw [hI.2.1 _ (by unfold zYo; omega)]; exact (hs.2.2.2 w h7).2.1 q hq t ht) hmw.1.2.1 hmw.2.1) lm_X8_184 zi_yX8_goesWord zs_yX8_goesWord rfl rfl (by decide) rfl rfl rfl (Nat.le_of_ble_eq_true rfl) (Nat.le_of_ble_eq_true rfl) (Nat.le_of_ble_eq_true rfl) (by exact Nat.le_refl _) (by exact Nat.le_refl _) ?_
        rintro u2 _ _ ⟨h2, rfl, rfl⟩
        refine e_iinc 26 dX8_goesBy_23 rfl (by decide) rfl (z_inc hii_1) (zst1_1 rfl) ?_
        refine e_goto 2 dX8_goesBy_26 (by decide) ?_
        first
          | exact ih (w + 1) _ (by omega) (zPsW_y hW h7 h15 hI h2) hQ
          | exact ih (w + 1) u (by omega) (zPsW_n h15 hI) hQ
set_option maxHeartbeats 4000000 in
set_option maxRecDepth 100000 in
theorem k_X8_goesBy (G : zG) {D E : Nat} {Λ : zLd} {m : zMo} {mi : zFi} {ml : zFl} {mr : zFr} (hr : zRf mr D E) (hd0 : zYd mi Λ) (hW : zLandW Λ) (hs : zYs (mi 225) Λ m) (hm : zMoW Λ m) (hy9 : m.1 < 99) : zMet G 5 yX8_goesBy cX8_goesBy 2 none [.ref 224] 238 mi ml mr 238 (zPv fun u b c => zFrm u mi ∧ zYs (u 225) Λ (zYear Λ m) ∧ b = ml ∧ c = mr) := by
  refine z_intro ([.ref 224, zx]) (by decide) rfl (Nat.le_of_ble_eq_true rfl) ?_
  refine e_iconst 1 hic_0 dX8_goesBy_0 rfl ?_
  refine e_istore_n 2 dX8_goesBy_1 rfl (by decide) (zst1_1 rfl) ?_
  have hP3 := hW.1.1
  have hW5 := hW.1.2.1
  refine l_X8_goesBy G 0 _ hr hd0 hW hs hm hy9 (Λ 0 1) 0 mi (by omega) ⟨zFrm.r mi, fun _ _ => rfl, fun v hv => by rw [show zPsW Λ m.1 m.2.2.2 0 v = (m.2.2.2 v).1 from if_neg (Nat.not_lt_zero v)]; exact (hs.2.2.2 v hv).1⟩ (fun u hI => ?_)
  refine e_aload_n 30 dX8_goesBy_29 rfl rfl ?_
  refine e_getr 33 dX8_goesBy_30 lf_X8_7 rfl rfl rfl (by decide) hr.ys ?_
  refine e_iconst 34 hic_0 dX8_goesBy_33 rfl ?_
  refine e_dup2 35 dX8_goesBy_34 rfl rfl rfl ?_
  refine e_iald (v := nI m.1) 36 dX8_goesBy_35 rfl rfl (by decide) rfl (by show 0 < 2950; decide) ((hI.2.1 0 (by omega)).trans hs.1) ?_
  refine e_iconst 37 hic_1 dX8_goesBy_36 rfl ?_
  first | refine e_iaddN 38 dX8_goesBy_37 rfl ?_ | refine e_iadd 38 dX8_goesBy_37 rfl ?_
  refine e_iast 39 dX8_goesBy_38 rfl rfl (by decide) rfl (by show 0 < 2950; decide) ?_
  have fp : zFs9 (zp u 225 0 (nI (m.1 + 1))) u := zFs9.p
  have e9 : ∀ k, k ≠ 0 → zp u 225 0 (nI (m.1 + 1)) 225 k = u 225 k := fun k hk => zp_k _ _ hk
  refine e_aload_n 40 dX8_goesBy_39 rfl rfl ?_
  refine c_Vv 43 (ci := 8) dX8_goesBy_40 (k_X8_comes G hr ((hd0.v hI.1).s fp) hW (y := m.1 + 1) (zp_s _ _ _ _) (by omega) (S := m.2.2.1) (hs.2.2.1.c hm.2.1.1 (fun k g1 g2 => (e9 k (by omega)).trans (hI.2.1 k (by omega)))) hm.2.1 (sh := fun v => zPassSh Λ (Λ 0 3) v m.1 (m.2.2.2 v).2.1 (m.2.2.2 v).1) (yg := fun v => (m.2.2.2 v).2.1) (pm := fun v => (m.2.2.2 v).2.2) (fun v hv q hq a g1 g2 => by rw [e9 _ (by unfold zAt; omega), hI.2.2 v hv q hq a g1 g2]; exact congrArg nI (by rw [show zPsW Λ m.1 m.2.2.2 (Λ 0 1) v = zPassSh Λ (Λ 0 3) v m.1 (m.2.2.2 v).2.1 (m.2.2.2 v).1 from if_pos hv])) (fun v hv q hq => zPassSh_le hW hW.1.2.2.2.1 (hm.2.2 v hv).1.2.1 (hm.2.2 v hv).1.1 q hq) (fun v hv => ⟨fun q hq t ht => by rw [e9 _ (by unfold zYo; omega), hI.2.1 _ (by unfold zYo; omega)]; exact (hs.2.2.2 v hv).2.1 q hq t (by omega), fun t ht => by rw [e9 _ (by unfold zPa; omega), hI.2.1 _ (by unfold zPa; omega)]; exact (hs.2.2.2 v hv).2.2 t (by omega)⟩)) lm_X8_179 zi_yX8_comes zs_yX8_comes rfl rfl (by decide) rfl rfl rfl (Nat.le_of_ble_eq_true rfl) (Nat.le_of_ble_eq_true rfl) (Nat.le_of_ble_eq_true rfl) (by exact Nat.le_refl _) (by exact Nat.le_refl _) ?_
  rintro u4 _ _ ⟨f4, e4, n4, rfl, rfl⟩
  refine e_vreturn dX8_goesBy_43 rfl ?_
  exact ⟨rfl, (f4.t fp).v.t hI.1, ⟨(e4 0 (by decide)).trans (zp_s _ _ _ _), (e4 1 (by decide)).trans ((e9 1 (by decide)).trans ((hI.2.1 1 (by omega)).trans hs.2.1)), hs.2.2.1.c hm.2.1.1 (fun k g1 g2 => (e4 k g2).trans ((e9 k (by omega)).trans (hI.2.1 k (by omega)))), fun v hv => n4 v hv⟩, rfl, rfl⟩

