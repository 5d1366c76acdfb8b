/-- the cells of a moment from B on -/
def zMomL (mr : zFr) (B : Nat) : Prop := (B = 3 ∨ B = 100 ∨ B = 162) ∧ (mr B 2 = some (B + 1) ∧ mr B 3 = some (B + 6)) ∧ (∀ w, w < 5 → mr (B + 6) w = some (B + 7 + 11 * w)) ∧ zSongL mr (B + 1) ∧ ∀ w, w < 5 → zLife mr (B + 7 + 11 * w)
section ZMOM
variable {mr : zFr} {B : Nat}
theorem zMomL.lt (h : zMomL mr B) : B + 62 ≤ 238 := by rcases h.1 with q | q | q <;> omega
theorem zMomL.l0 (h : zMomL mr B) : B < 238 := by have := h.lt; omega
theorem zMomL.l6 (h : zMomL mr B) : B + 6 < 238 := by have := h.lt; omega
theorem zMomL.k0 (h : zMomL mr B) : zKD B = 3 := by rcases h.1 with q | q | q <;> subst q <;> rfl
theorem zMomL.k6 (h : zMomL mr B) : zKD (B + 6) = 19 ∨ zKD (B + 6) = 20 ∨ zKD (B + 6) = 21 := Or.inl (by rcases h.1 with q | q | q <;> subst q <;> rfl)
theorem zMomL.n6 (h : zMomL mr B) {w : Nat} (hw : w < 5) : w < zLN (B + 6) := by
  have e : zLN (B + 6) = 5 := by rcases h.1 with q | q | q <;> subst q <;> rfl
  rw [e]; exact hw
theorem zMomL.r2 (h : zMomL mr B) : mr B 2 = some (B + 1) := h.2.1.1
theorem zMomL.r3 (h : zMomL mr B) : mr B 3 = some (B + 6) := h.2.1.2
theorem zMomL.lv (h : zMomL mr B) {w : Nat} (hw : w < 5) : mr (B + 6) w = some (B + 7 + 11 * w) := h.2.2.1 w hw
theorem zMomL.sg (h : zMomL mr B) : zSongL mr (B + 1) := h.2.2.2.1
theorem zMomL.lf (h : zMomL mr B) {w : Nat} (hw : w < 5) : zLife mr (B + 7 + 11 * w) := h.2.2.2.2 w hw
end ZMOM
def zMomR (mi : zFi) (B N W y : Nat) (lot : Int32) (S : zLd) (x : Nat → zSt) : Prop := mi B 0 = nI y ∧ mi B 1 = lot ∧ zSongR mi (B + 1) S ∧ ∀ w, w < W → zLifeR mi (B + 7 + 11 * w) N y (x w)
def zS0 : zLd := fun _ _ => 0
theorem zS0_W (P W : Nat) : zSongW P W zS0 := ⟨Nat.zero_le _, fun i hi => absurd hi (Nat.not_lt_zero _)⟩
theorem zMomR.congr {mi mi' : zFi} {B N W y : Nat} {lot : Int32} {S : zLd} {x : Nat → zSt} (hN : N ≤ 3) (hW : W ≤ 5) (h : zMomR mi B N W y lot S x) (e : ∀ q, B ≤ q → q < B + 62 → mi' q = mi q) : zMomR mi' B N W y lot S x := by
  obtain ⟨h1, h2, h3, h4⟩ := h
  refine ⟨by rw [e _ (by omega) (by omega)]; exact h1, by rw [e _ (by omega) (by omega)]; exact h2, h3.congr (fun j hj => e _ (by omega) (by omega)), fun w hw => (h4 w hw).congr hN (fun q h1 h2 => e q (by omega) (by omega))⟩
set_option maxHeartbeats 4000000 in
set_option maxRecDepth 100000 in
theorem l_X3_begin (G : zG) (Q : zQ) {B D : Nat} {Λ : zLd} {mi : zFi} {ml : zFl} {mr : zFr} (hM : zMomL mr B) (hD : zLandL mr D) (hW : zLandW Λ) (hΛ : zLandR mi D Λ) : ∀ (k p : Nat) (m : zFi), p + k = Λ 0 1 → ((∀ q, q < B ∨ B + 62 ≤ q → m q = mi q) ∧ m B 0 = nI 0 ∧ m B 1 = mi B 1 ∧ zSongR m (B + 1) zS0 ∧ ∀ j, j < p → zLifeR m (B + 7 + 11 * j) (Λ 0 0) 0 (zBegin Λ zS0 j)) → (∀ a, (∀ q, q < B ∨ B + 62 ≤ q → a q = mi q) → zMomR a B (Λ 0 0) (Λ 0 1) 0 (mi B 1) zS0 (zBegin Λ zS0) → Q none a ml mr) → zE G (zRm 4 238 238) (zQm G 238 238 Q) yX3_begin.cls yX3_begin.name cX3_begin 3 none 238 15 [.ref B, .ref D, .int (nI p)] [] 238 m ml mr := by
  intro k
  induction k with
  | zero =>
    intro p m h hI hQ
    have hb9 := hM.lt
    have hW5 := hW.1.2.1
    have hN3 := hW.1.1
    have hDB : D + 6 ≤ B ∨ B + 62 ≤ D := by rcases hM.1 with q | q | q <;> rcases hD.1 with r | r <;> omega
    have hΛm := hΛ.congr (mi' := m) (fun j hj => hI.1 _ (by omega))
    refine e_iload_n 16 dX3_begin_15 rfl rfl ?_
    refine e_aload_n 17 dX3_begin_16 rfl rfl ?_
    refine e_geti 20 dX3_begin_17 lf_X3_32 rfl rfl hD.k0 hD.l0 (hΛm.f1) ?_
    refine e_icmp_geN 44 23 dX3_begin_20 (by decide) rfl (by omega) (by omega) (fun h20 => ?_) (fun h20 => ?_)
    · obtain hp9 : p = Λ 0 1 := by omega
      subst hp9
      refine e_vreturn dX3_begin_44 rfl ?_
      exact hQ m hI.1 hI.2
    · exact absurd h20 (by omega)
  | succ k ih =>
    intro p m h hI hQ
    have hb9 := hM.lt
    have hW5 := hW.1.2.1
    have hN3 := hW.1.1
    have hDB : D + 6 ≤ B ∨ B + 62 ≤ D := by rcases hM.1 with q | q | q <;> rcases hD.1 with r | r <;> omega
    have hΛm := hΛ.congr (mi' := m) (fun j hj => hI.1 _ (by omega))
    refine e_iload_n 16 dX3_begin_15 rfl rfl ?_
    refine e_aload_n 17 dX3_begin_16 rfl rfl ?_
    refine e_geti 20 dX3_begin_17 lf_X3_32 rfl rfl hD.k0 hD.l0 (hΛm.f1) ?_
    refine e_icmp_geN 44 23 dX3_begin_20 (by decide) rfl (by omega) (by omega) (fun h20 => ?_) (fun h20 => ?_)
    · exact absurd h20 (by omega)
    · refine e_aload_n 24 dX3_begin_23 rfl rfl ?_
      refine e_getr 27 dX3_begin_24 lf_X3_20 rfl rfl hM.k0 hM.l0 hM.r3 ?_
      refine e_iload_n 28 dX3_begin_27 rfl rfl ?_
      refine e_aald 29 dX3_begin_28 rfl hM.k6 hM.l6 rfl (hM.n6 (by omega)) (hM.lv (by omega)) ?_
      refine e_aload_n 30 dX3_begin_29 rfl rfl ?_
      refine e_aload_n 31 dX3_begin_30 rfl rfl ?_
      refine e_getr 34 dX3_begin_31 lf_X3_12 rfl rfl hM.k0 hM.l0 hM.r2 ?_
      refine e_iload_n 35 dX3_begin_34 rfl rfl ?_
      refine c_Vv 38 (ci := 2) dX3_begin_35 (k_X2_begin G (hM.lf (w := p) (by omega)) hD hM.sg hW (zS0_W _ _) h20 (by omega) (by omega) hΛm hI.2.2.2.1) lm_X3_37 zi_yX2_begin zs_yX2_begin rfl (hM.lf (w := p) (by omega)).k0 (hM.lf (w := p) (by omega)).l0 rfl rfl rfl (Nat.le_of_ble_eq_true rfl) (Nat.le_of_ble_eq_true rfl) (Nat.le_of_ble_eq_true rfl) (Nat.le_refl _) (Nat.le_refl _) ?_
      rintro m1 _ _ ⟨a1, r1, rfl, rfl⟩
      refine e_iinc 41 dX3_begin_38 rfl (by decide) rfl (z_inc hii_1) (zst1_2 rfl) ?_
      refine e_goto 15 dX3_begin_41 (by decide) ?_
      refine ih (p + 1) m1 (by omega) ⟨fun q hq => by rw [a1 _ (by omega)]; exact hI.1 q hq, by rw [a1 _ (by omega)]; exact hI.2.1, by rw [a1 _ (by omega)]; exact hI.2.2.1, hI.2.2.2.1.congr (fun j hj => a1 _ (by omega)), fun j hj => ?_⟩ hQ
      by_cases e : j = p
      · subst e; exact r1
      · exact (hI.2.2.2.2 j (by omega)).congr hN3 (fun q h1 h2 => a1 q (by omega))
set_option maxHeartbeats 4000000 in
set_option maxRecDepth 100000 in
theorem k_X3_begin (G : zG) {B D : Nat} {Λ : zLd} {mi : zFi} {ml : zFl} {mr : zFr} (hM : zMomL mr B) (hD : zLandL mr D) (hW : zLandW Λ) (hΛ : zLandR mi D Λ) : zMet G 4 yX3_begin cX3_begin 3 none [.ref B, .ref D] 238 mi ml mr 238 (zPv fun a b c => (∀ q, q < B ∨ B + 62 ≤ q → a q = mi q) ∧ zMomR a B (Λ 0 0) (Λ 0 1) 0 (mi B 1) zS0 (zBegin Λ zS0) ∧ b = ml ∧ c = mr) := by
  refine z_intro ([.ref B, .ref D, zx]) (by decide) rfl (Nat.le_of_ble_eq_true rfl) ?_
  refine e_aload_n 1 dX3_begin_0 rfl rfl ?_
  refine e_iconst 2 hic_0 dX3_begin_1 rfl ?_
  refine e_puti 5 dX3_begin_2 lf_X3_25 rfl rfl rfl rfl hM.k0 hM.l0 ?_
  refine e_aload_n 6 dX3_begin_5 rfl rfl ?_
  refine e_getr 9 dX3_begin_6 lf_X3_12 rfl rfl hM.k0 hM.l0 hM.r2 ?_
  refine e_iconst 10 hic_0 dX3_begin_9 rfl ?_
  refine e_puti 13 dX3_begin_10 lf_X3_29 rfl rfl rfl rfl hM.sg.k0 hM.sg.l0 ?_
  refine e_iconst 14 hic_0 dX3_begin_13 rfl ?_
  refine e_istore_n 15 dX3_begin_14 rfl (by decide) (zst1_2 rfl) ?_
  have hb9 := hM.lt
  refine l_X3_begin G _ hM hD hW hΛ (Λ 0 1) 0 _ (by omega) ⟨fun q hq => ?_, ?_, ?_, ⟨?_, fun i hi => absurd hi (Nat.not_lt_zero _)⟩, fun j hj => absurd hj (Nat.not_lt_zero _)⟩ (fun a h1 h2 => ⟨rfl, h1, h2, rfl, rfl⟩)
  · rw [zp_r _ _ _ (by omega), zp_r _ _ _ (by omega)]
  · rw [zp_r _ _ _ (by omega), zp_s]
  · rw [zp_r _ _ _ (by omega), zp_k _ _ (by decide)]
  · rw [zp_s]; rfl

set_option maxHeartbeats 4000000 in
set_option maxRecDepth 100000 in
theorem l_X3_pass (G : zG) (Q : zQ) {B D : Nat} {Λ : zLd} {mi : zFi} {ml : zFl} {mr : zFr} (hM : zMomL mr B) (hD : zLandL mr D) (hW : zLandW Λ) (hΛ : zLandR mi D Λ) {y : Nat} {lot : Int32} {S : zLd} {x : Nat → zSt} (hy : y < 99) (hS : zSongW (Λ 0 0) (Λ 0 1) S) (hR : zMomR mi B (Λ 0 0) (Λ 0 1) y lot S x) (hX : ∀ w, w < Λ 0 1 → zStW (Λ 0 0) y (x w)) : ∀ (k p : Nat) (m : zFi), p + k = Λ 0 1 → ((∀ q, q < B ∨ B + 62 ≤ q → m q = mi q) ∧ m B = mi B ∧ (∀ j, j < 5 → m (B + 1 + j) = mi (B + 1 + j)) ∧ (∀ j, j < p → zLifeR m (B + 7 + 11 * j) (Λ 0 0) (y + 1) (zPass Λ S (Λ 0 3) j y (x j))) ∧ ∀ j, p ≤ j → j < Λ 0 1 → zLifeR m (B + 7 + 11 * j) (Λ 0 0) y (x j)) → (∀ a, (∀ q, q < B ∨ B + 62 ≤ q → a q = mi q) → zMomR a B (Λ 0 0) (Λ 0 1) (y + 1) lot S (fun w => zPass Λ S (Λ 0 3) w y (x w)) → Q none a ml mr) → zE G (zRm 4 238 238) (zQm G 238 238 Q) yX3_pass.cls yX3_pass.name cX3_pass 3 none 238 2 [.ref B, .ref D, .int (nI p)] [] 238 m ml mr := by
  intro k
  induction k with
  | zero =>
    intro p m h hI hQ
    have hb9 := hM.lt
    have hW5 := hW.1.2.1
    have hN3 := hW.1.1
    have hDB : D + 6 ≤ B ∨ B + 62 ≤ D := by rcases hM.1 with q | q | q <;> rcases hD.1 with r | r <;> omega
    have hΛm := hΛ.congr (mi' := m) (fun j hj => hI.1 _ (by omega))
    refine e_iload_n 3 dX3_pass_2 rfl rfl ?_
    refine e_aload_n 4 dX3_pass_3 rfl rfl ?_
    refine e_geti 7 dX3_pass_4 lf_X3_32 rfl rfl hD.k0 hD.l0 (hΛm.f1) ?_
    refine e_icmp_geN 39 10 dX3_pass_7 (by decide) rfl (by omega) (by omega) (fun h7 => ?_) (fun h7 => ?_)
    · obtain hp9 : p = Λ 0 1 := by omega
      subst hp9
      refine e_aload_n 40 dX3_pass_39 rfl rfl ?_
      refine e_dup 41 dX3_pass_40 rfl rfl ?_
      refine e_geti (v := nI y) 44 dX3_pass_41 lf_X3_25 rfl rfl hM.k0 hM.l0 (by rw [hI.2.1]; exact hR.1) ?_
      refine e_iconst 45 hic_1 dX3_pass_44 rfl ?_
      first | refine e_iaddN 46 dX3_pass_45 rfl ?_ | refine e_iadd 46 dX3_pass_45 rfl ?_
      refine e_puti 49 dX3_pass_46 lf_X3_25 rfl rfl rfl rfl hM.k0 hM.l0 ?_
      refine e_vreturn dX3_pass_49 rfl ?_
      refine hQ _ (fun q hq => by rw [zp_r _ _ _ (by omega)]; exact hI.1 q hq) ⟨zp_s _ _ _ _, by rw [zp_k _ _ (by decide), hI.2.1]; exact hR.2.1, hR.2.2.1.congr (fun j hj => by rw [zp_r _ _ _ (by omega)]; exact hI.2.2.1 j hj), fun w hw => (hI.2.2.2.1 w hw).congr hN3 (fun q h1 h2 => zp_r _ _ _ (by omega))⟩
    · exact absurd h7 (by omega)
  | succ k ih =>
    intro p m h hI hQ
    have hb9 := hM.lt
    have hW5 := hW.1.2.1
    have hN3 := hW.1.1
    have hDB : D + 6 ≤ B ∨ B + 62 ≤ D := by rcases hM.1 with q | q | q <;> rcases hD.1 with r | r <;> omega
    have hΛm := hΛ.congr (mi' := m) (fun j hj => hI.1 _ (by omega))
    refine e_iload_n 3 dX3_pass_2 rfl rfl ?_
    refine e_aload_n 4 dX3_pass_3 rfl rfl ?_
    refine e_geti 7 dX3_pass_4 lf_X3_32 rfl rfl hD.k0 hD.l0 (hΛm.f1) ?_
    refine e_icmp_geN 39 10 dX3_pass_7 (by decide) rfl (by omega) (by omega) (fun h7 => ?_) (fun h7 => ?_)
    · exact absurd h7 (by omega)
    · refine e_aload_n 11 dX3_pass_10 rfl rfl ?_
      refine e_getr 14 dX3_pass_11 lf_X3_20 rfl rfl hM.k0 hM.l0 hM.r3 ?_
      refine e_iload_n 15 dX3_pass_14 rfl rfl ?_
      refine e_aald 16 dX3_pass_15 rfl hM.k6 hM.l6 rfl (hM.n6 (by omega)) (hM.lv (by omega)) ?_
      refine e_aload_n 17 dX3_pass_16 rfl rfl ?_
      refine e_aload_n 18 dX3_pass_17 rfl rfl ?_
      refine e_getr 21 dX3_pass_18 lf_X3_12 rfl rfl hM.k0 hM.l0 hM.r2 ?_
      refine e_iload_n 22 dX3_pass_21 rfl rfl ?_
      refine e_aload_n 23 dX3_pass_22 rfl rfl ?_
      refine e_geti 26 dX3_pass_23 lf_X3_41 rfl rfl hD.k0 hD.l0 (hΛm.f3) ?_
      refine e_aload_n 27 dX3_pass_26 rfl rfl ?_
      refine e_geti (v := nI y) 30 dX3_pass_27 lf_X3_25 rfl rfl hM.k0 hM.l0 (by rw [hI.2.1]; exact hR.1) ?_
      refine c_Vv 33 (ci := 2) dX3_pass_30 (k_X2_pass G (hM.lf (w := p) (by omega)) hD hM.sg hW hS h7 hW.1.2.2.2.1 hy (by omega) (by omega) hΛm (hR.2.2.1.congr (fun j hj => hI.2.2.1 j hj)) (hI.2.2.2.2 p (Nat.le_refl p) h7) (hX p h7)) lm_X3_44 zi_yX2_pass zs_yX2_pass rfl (hM.lf (w := p) (by omega)).k0 (hM.lf (w := p) (by omega)).l0 rfl rfl rfl (Nat.le_of_ble_eq_true rfl) (Nat.le_of_ble_eq_true rfl) (Nat.le_of_ble_eq_true rfl) (Nat.le_refl _) (Nat.le_refl _) ?_
      rintro m1 _ _ ⟨a1, r1, rfl, rfl⟩
      refine e_iinc 36 dX3_pass_33 rfl (by decide) rfl (z_inc hii_1) (zst1_2 rfl) ?_
      refine e_goto 2 dX3_pass_36 (by decide) ?_
      refine ih (p + 1) m1 (by omega) ⟨fun q hq => by rw [a1 _ (by omega)]; exact hI.1 q hq, by rw [a1 _ (by omega)]; exact hI.2.1, fun j hj => by rw [a1 _ (by omega)]; exact hI.2.2.1 j hj, fun j hj => ?_, fun j h1 h2 => (hI.2.2.2.2 j (by omega) h2).congr hN3 (fun q h1 h2 => a1 q (by omega))⟩ hQ
      by_cases e : j = p
      · subst e; exact r1
      · exact (hI.2.2.2.1 j (by omega)).congr hN3 (fun q h1 h2 => a1 q (by omega))
set_option maxHeartbeats 4000000 in
set_option maxRecDepth 100000 in
theorem k_X3_pass (G : zG) {B D : Nat} {Λ : zLd} {mi : zFi} {ml : zFl} {mr : zFr} (hM : zMomL mr B) (hD : zLandL mr D) (hW : zLandW Λ) (hΛ : zLandR mi D Λ) {y : Nat} {lot : Int32} {S : zLd} {x : Nat → zSt} (hy : y < 99) (hS : zSongW (Λ 0 0) (Λ 0 1) S) (hR : zMomR mi B (Λ 0 0) (Λ 0 1) y lot S x) (hX : ∀ w, w < Λ 0 1 → zStW (Λ 0 0) y (x w)) : zMet G 4 yX3_pass cX3_pass 3 none [.ref B, .ref D] 238 mi ml mr 238 (zPv fun a b c => (∀ q, q < B ∨ B + 62 ≤ q → a q = mi q) ∧ zMomR a B (Λ 0 0) (Λ 0 1) (y + 1) lot S (fun w => zPass Λ S (Λ 0 3) w y (x w)) ∧ b = ml ∧ c = mr) := by
  refine z_intro ([.ref B, .ref D, zx]) (by decide) rfl (Nat.le_of_ble_eq_true rfl) ?_
  refine e_iconst 1 hic_0 dX3_pass_0 rfl ?_
  refine e_istore_n 2 dX3_pass_1 rfl (by decide) (zst1_2 rfl) ?_
  exact l_X3_pass G _ hM hD hW hΛ hy hS hR hX (Λ 0 1) 0 mi (by omega) ⟨fun _ _ => rfl, rfl, fun _ _ => rfl, fun j hj => absurd hj (Nat.not_lt_zero _), fun j _ hj => hR.2.2.2 j hj⟩ (fun a h1 h2 => ⟨rfl, h1, h2, rfl, rfl⟩)

set_option maxHeartbeats 4000000 in
set_option maxRecDepth 100000 in
theorem l_X3_copyFrom (G : zG) (Q : zQ) {B E N W y : Nat} {lot : Int32} {S : zLd} {x : Nat → zSt} {mi : zFi} {ml : zFl} {mr : zFr} (hM : zMomL mr B) (hE : zMomL mr E) (hBE : B + 62 ≤ E ∨ E + 62 ≤ B) (hN : N ≤ 3) (hW : W ≤ 5) (hy : y < 100) (hn : S 0 0 ≤ 10) (hR : zMomR mi E N W y lot S x) : ∀ (k p : Nat) (m : zFi), p + k = 5 → ((∀ q, q < B ∨ B + 62 ≤ q → m q = mi q) ∧ m B 0 = nI y ∧ m B 1 = lot ∧ zSongR m (B + 1) S ∧ ∀ j, j < p → j < W → zLifeR m (B + 7 + 11 * j) N y (x j)) → (∀ a, (∀ q, q < B ∨ B + 62 ≤ q → a q = mi q) → zMomR a B N W y lot S x → Q none a ml mr) → zE G (zRm 2 238 238) (zQm G 238 238 Q) yX3_copyFrom.cls yX3_copyFrom.name cX3_copyFrom 3 none 238 29 [.ref B, .ref E, .int (nI p)] [] 238 m ml mr := by
  intro k
  induction k with
  | zero =>
    intro p m h hI hQ
    have hb9 := hM.lt
    have he9 := hE.lt
    refine e_iload_n 30 dX3_copyFrom_29 rfl rfl ?_
    refine e_iconst 31 hic_5 dX3_copyFrom_30 rfl ?_
    refine e_icmp_geN 55 34 dX3_copyFrom_31 (by decide) rfl (by omega) (by omega) (fun h31 => ?_) (fun h31 => ?_)
    · refine e_vreturn dX3_copyFrom_55 rfl ?_
      exact hQ m hI.1 ⟨hI.2.1, hI.2.2.1, hI.2.2.2.1, fun w hw => hI.2.2.2.2 w (by omega) hw⟩
    · exact absurd h31 (by omega)
  | succ k ih =>
    intro p m h hI hQ
    have hb9 := hM.lt
    have he9 := hE.lt
    refine e_iload_n 30 dX3_copyFrom_29 rfl rfl ?_
    refine e_iconst 31 hic_5 dX3_copyFrom_30 rfl ?_
    refine e_icmp_geN 55 34 dX3_copyFrom_31 (by decide) rfl (by omega) (by omega) (fun h31 => ?_) (fun h31 => ?_)
    · exact absurd h31 (by omega)
    · refine e_aload_n 35 dX3_copyFrom_34 rfl rfl ?_
      refine e_getr 38 dX3_copyFrom_35 lf_X3_20 rfl rfl hM.k0 hM.l0 hM.r3 ?_
      refine e_iload_n 39 dX3_copyFrom_38 rfl rfl ?_
      refine e_aald 40 dX3_copyFrom_39 rfl hM.k6 hM.l6 rfl (hM.n6 (by omega)) (hM.lv (by omega)) ?_
      refine e_aload_n 41 dX3_copyFrom_40 rfl rfl ?_
      refine e_getr 44 dX3_copyFrom_41 lf_X3_20 rfl rfl hE.k0 hE.l0 hE.r3 ?_
      refine e_iload_n 45 dX3_copyFrom_44 rfl rfl ?_
      refine e_aald 46 dX3_copyFrom_45 rfl hE.k6 hE.l6 rfl (hE.n6 (by omega)) (hE.lv (by omega)) ?_
      refine c_Vv 49 (ci := 2) dX3_copyFrom_46 (k_X2_copyFrom G (hM.lf (w := p) (by omega)) (hE.lf (w := p) (by omega)) (by omega)) lm_X3_55 zi_yX2_copyFrom zs_yX2_copyFrom rfl (hM.lf (w := p) (by omega)).k0 (hM.lf (w := p) (by omega)).l0 rfl rfl rfl (Nat.le_of_ble_eq_true rfl) (Nat.le_of_ble_eq_true rfl) (Nat.le_of_ble_eq_true rfl) (Nat.le_refl _) (Nat.le_refl _) ?_
      rintro m1 _ _ ⟨a1, rfl, rfl⟩
      refine e_iinc 52 dX3_copyFrom_49 rfl (by decide) rfl (z_inc hii_1) (zst1_2 rfl) ?_
      refine e_goto 29 dX3_copyFrom_52 (by decide) ?_
      refine ih (p + 1) m1 (by omega) ⟨fun q hq => by rw [a1.1 _ (by omega)]; exact hI.1 q hq, by rw [a1.1 _ (by omega)]; exact hI.2.1, by rw [a1.1 _ (by omega)]; exact hI.2.2.1, hI.2.2.2.1.congr (fun j hj => a1.1 _ (by omega)), fun j h1 h2 => ?_⟩ hQ
      by_cases e : j = p
      · subst e; exact a1.R hN hy ((hR.2.2.2 j h2).congr hN (fun q h1 h2 => hI.1 q (by omega)))
      · exact (hI.2.2.2.2 j (by omega) h2).congr hN (fun q h1 h2 => a1.1 q (by omega))
set_option maxHeartbeats 4000000 in
set_option maxRecDepth 100000 in
theorem k_X3_copyFrom (G : zG) {B E N W y : Nat} {lot : Int32} {S : zLd} {x : Nat → zSt} {mi : zFi} {ml : zFl} {mr : zFr} (hM : zMomL mr B) (hE : zMomL mr E) (hBE : B + 62 ≤ E ∨ E + 62 ≤ B) (hN : N ≤ 3) (hW : W ≤ 5) (hy : y < 100) (hn : S 0 0 ≤ 10) (hR : zMomR mi E N W y lot S x) : zMet G 2 yX3_copyFrom cX3_copyFrom 3 none [.ref B, .ref E] 238 mi ml mr 238 (zPv fun a b c => (∀ q, q < B ∨ B + 62 ≤ q → a q = mi q) ∧ zMomR a B N W y lot S x ∧ b = ml ∧ c = mr) := by
  refine z_intro ([.ref B, .ref E, zx]) (by decide) rfl (Nat.le_of_ble_eq_true rfl) ?_
  refine e_aload_n 1 dX3_copyFrom_0 rfl rfl ?_
  refine e_aload_n 2 dX3_copyFrom_1 rfl rfl ?_
  refine e_geti 5 dX3_copyFrom_2 lf_X3_25 rfl rfl hE.k0 hE.l0 hR.1 ?_
  refine e_puti 8 dX3_copyFrom_5 lf_X3_25 rfl rfl rfl rfl hM.k0 hM.l0 ?_
  refine e_aload_n 9 dX3_copyFrom_8 rfl rfl ?_
  refine e_aload_n 10 dX3_copyFrom_9 rfl rfl ?_
  refine e_geti (v := lot) 13 dX3_copyFrom_10 lf_X3_48 rfl rfl hE.k0 hE.l0 (by have := hM.lt; have := hE.lt; rw [zp_r _ _ _ (by omega)]; exact hR.2.1) ?_
  refine e_puti 16 dX3_copyFrom_13 lf_X3_48 rfl rfl rfl rfl hM.k0 hM.l0 ?_
  refine e_aload_n 17 dX3_copyFrom_16 rfl rfl ?_
  refine e_getr 20 dX3_copyFrom_17 lf_X3_12 rfl rfl hM.k0 hM.l0 hM.r2 ?_
  refine e_aload_n 21 dX3_copyFrom_20 rfl rfl ?_
  refine e_getr 24 dX3_copyFrom_21 lf_X3_12 rfl rfl hE.k0 hE.l0 hE.r2 ?_
  refine c_Vv 27 (ci := 5) dX3_copyFrom_24 (k_X5_copyFrom G hM.sg hE.sg (hR.2.2.1.congr (fun j hj => by have := hM.lt; have := hE.lt; rw [zp_r _ _ _ (by omega), zp_r _ _ _ (by omega)])) hn (by omega)) lm_X3_51 zi_yX5_copyFrom zs_yX5_copyFrom rfl hM.sg.k0 hM.sg.l0 rfl rfl rfl (Nat.le_of_ble_eq_true rfl) (Nat.le_of_ble_eq_true rfl) (Nat.le_of_ble_eq_true rfl) (Nat.le_refl _) (Nat.le_refl _) ?_
  rintro m1 _ _ ⟨a1, r1, rfl, rfl⟩
  refine e_iconst 28 hic_0 dX3_copyFrom_27 rfl ?_
  refine e_istore_n 29 dX3_copyFrom_28 rfl (by decide) (zst1_2 rfl) ?_
  have hb9 := hM.lt
  have he9 := hE.lt
  refine l_X3_copyFrom G _ hM hE hBE hN hW hy hn hR 5 0 m1 (by omega) ⟨fun q hq => ?_, ?_, ?_, r1, fun j hj => absurd hj (Nat.not_lt_zero _)⟩ (fun a h1 h2 => ⟨rfl, h1, h2, rfl, rfl⟩)
  · rw [a1 _ (by omega), zp_r _ _ _ (by omega), zp_r _ _ _ (by omega)]
  · rw [a1 _ (by omega), zp_k _ _ (by decide), zp_s]
  · rw [a1 _ (by omega), zp_s]

