theorem k_J7_fillN (G : zG) {r : Nat} {mi : zFi} {ml : zFl} {mr : zFr} (hk : zKD r = 16) (hr : r < 238) : zMet G 0 yJ7_fill_53178 cJ7_fill_53178 4 none [.ref r, .int (nI 0)] 238 mi ml mr 238 (zPv fun a b c => zOnly r mi a ∧ (∀ j, j < zLN r → a r j = 0) ∧ b = ml ∧ c = mr) := by
  rw [nI_0]
  exact k_J7_fill_53178 G hk hr
set_option maxHeartbeats 4000000 in
set_option maxRecDepth 100000 in
theorem l_X2_begin (G : zG) (Q : zQ) {L D B w : Nat} {Λ S : zLd} {mi : zFi} {ml : zFl} {mr : zFr} (hL : zLife mr L) (hD : zLandL mr D) (hB : zSongL mr B) (hW : zLandW Λ) (hS : zSongW (Λ 0 0) (Λ 0 1) S) (hw : w < Λ 0 1) (hDL : D + 6 ≤ L ∨ L + 11 ≤ D) (hBL : B + 5 ≤ L ∨ L + 11 ≤ B) (hΛ : zLandR mi D Λ) (hSg : zSongR mi B S) : ∀ (k p : Nat) (m : zFi), p + k = 3 → zOnlyS L mi m → (∀ j, j < p → ∀ a, a < 70 → m (L + 2 + j) a = 0) → (∀ m, zOnlyS L mi m → (∀ j, j < 3 → ∀ a, a < 70 → m (L + 2 + j) a = 0) → zE G (zRm 3 238 238) (zQm G 238 238 Q) yX2_begin.cls yX2_begin.name cX2_begin 5 none 238 26 [.ref L, .ref D, .ref B, .int (nI w), .int (nI 3)] [] 238 m ml mr) → zE G (zRm 3 238 238) (zQm G 238 238 Q) yX2_begin.cls yX2_begin.name cX2_begin 5 none 238 3 [.ref L, .ref D, .ref B, .int (nI w), .int (nI p)] [] 238 m ml mr := by
  intro k
  induction k with
  | zero =>
    intro p m h hI hZ hQ
    have hl9 := hL.lt
    refine e_iload 5 dX2_begin_3 rfl rfl ?_
    refine e_iconst 6 hic_3 dX2_begin_5 rfl ?_
    refine e_icmp_geN 26 9 dX2_begin_6 (by decide) rfl (by omega) (by omega) (fun h6 => ?_) (fun h6 => ?_)
    · obtain rfl : p = 3 := by omega
      exact hQ m hI hZ
    · exact absurd h6 (by omega)
  | succ k ih =>
    intro p m h hI hZ hQ
    have hl9 := hL.lt
    refine e_iload 5 dX2_begin_3 rfl rfl ?_
    refine e_iconst 6 hic_3 dX2_begin_5 rfl ?_
    refine e_icmp_geN 26 9 dX2_begin_6 (by decide) rfl (by omega) (by omega) (fun h6 => ?_) (fun h6 => ?_)
    · exact absurd h6 (by omega)
    · refine e_aload_n 10 dX2_begin_9 rfl rfl ?_
      refine e_getr 13 dX2_begin_10 lf_X2_11 rfl rfl hL.k0 hL.l0 hL.r0 ?_
      refine e_iload 15 dX2_begin_13 rfl rfl ?_
      refine e_aald 16 dX2_begin_15 rfl hL.k1 hL.l1 rfl (hL.n1 (by omega)) (hL.sh (by omega)) ?_
      refine e_iconst 17 hic_0 dX2_begin_16 rfl ?_
      refine c_Sv 20 dX2_begin_17 (k_J7_fillN G (hL.ks (by omega)) (hL.ls (by omega))) lm_X2_44 zt_yJ7_fill_53178 rfl rfl rfl (Nat.le_of_ble_eq_true rfl) (Nat.le_of_ble_eq_true rfl) (Nat.le_of_ble_eq_true rfl) (Nat.le_refl _) (Nat.le_refl _) ?_
      rintro m1 _ _ ⟨a1, r1, rfl, rfl⟩
      refine e_iinc 23 dX2_begin_20 rfl (by decide) rfl (z_inc hii_1) (zst1_4 rfl) ?_
      refine e_goto 3 dX2_begin_23 (by decide) ?_
      refine ih (p + 1) m1 (by omega) (fun q hq => by rw [a1 _ (by omega)]; exact hI q hq) (fun j hj a ha => ?_) hQ
      by_cases e : j = p
      · subst e; exact r1 a (by rw [hL.ns (by omega)]; exact ha)
      · rw [a1 _ (by omega)]; exact hZ j (by omega) a ha
set_option maxHeartbeats 4000000 in
set_option maxRecDepth 100000 in
theorem k_X2_begin (G : zG) {L D B w : Nat} {Λ S : zLd} {mi : zFi} {ml : zFl} {mr : zFr} (hL : zLife mr L) (hD : zLandL mr D) (hB : zSongL mr B) (hW : zLandW Λ) (hS : zSongW (Λ 0 0) (Λ 0 1) S) (hw : w < Λ 0 1) (hDL : D + 6 ≤ L ∨ L + 11 ≤ D) (hBL : B + 5 ≤ L ∨ L + 11 ≤ B) (hΛ : zLandR mi D Λ) (hSg : zSongR mi B S) : zMet G 3 yX2_begin cX2_begin 5 none [.ref L, .ref D, .ref B, .int (nI w)] 238 mi ml mr 238 (zPv fun a b c => (∀ q, q < L + 2 ∨ L + 11 ≤ q → a q = mi q) ∧ zLifeR a L (Λ 0 0) 0 (zBegin Λ S w) ∧ b = ml ∧ c = mr) := by
  refine z_intro ([.ref L, .ref D, .ref B, .int (nI w), zx]) (by decide) rfl (Nat.le_of_ble_eq_true rfl) ?_
  refine e_iconst 1 hic_0 dX2_begin_0 rfl ?_
  refine e_istore 3 dX2_begin_1 rfl (by decide) (zst1_4 rfl) ?_
  refine l_X2_begin G _ hL hD hB hW hS hw hDL hBL hΛ hSg 3 0 mi (by omega) (fun _ _ => rfl) (fun j hj => absurd hj (Nat.not_lt_zero _)) (fun m hon hz => ?_)
  have hP3 := hW.1.1
  have hl9 := hL.lt
  have hΛm := hΛ.congr (mi' := m) (fun j hj => hon _ (by omega))
  have hSm := hSg.congr (mi' := m) (fun j hj => hon _ (by omega))
  have hR1 : zRows L (Λ 0 0) (fun _ _ => 0) m := fun p hp a h1 h2 => (hz p (by omega) a (by omega)).trans nI_0.symm
  refine e_aload_n 27 dX2_begin_26 rfl rfl ?_
  refine e_aload_n 28 dX2_begin_27 rfl rfl ?_
  refine e_aload_n 29 dX2_begin_28 rfl rfl ?_
  refine e_iload_n 30 dX2_begin_29 rfl rfl ?_
  refine e_iconst 31 hic_0 dX2_begin_30 rfl ?_
  refine c_Vv 34 (ci := 2) dX2_begin_31 (k_X2_arrive G hL hD hB hW hS rfl hw (by decide) hDL hBL hΛm hSm hR1 (fun _ _ _ _ _ => Nat.zero_le _)) lm_X2_50 zi_yX2_arrive zs_yX2_arrive rfl hL.k0 hL.l0 rfl rfl rfl (Nat.le_of_ble_eq_true rfl) (Nat.le_of_ble_eq_true rfl) (Nat.le_of_ble_eq_true rfl) (Nat.le_refl _) (Nat.le_refl _) ?_
  rintro m2 _ _ ⟨a2, r2, rfl, rfl⟩
  have hΛm := hΛm.congr (mi' := m2) (fun j hj => a2 _ (by omega))
  refine e_aload_n 35 dX2_begin_34 rfl rfl ?_
  refine e_aload_n 36 dX2_begin_35 rfl rfl ?_
  refine e_geti 39 dX2_begin_36 lf_X2_54 rfl rfl hD.k0 hD.l0 (hΛm.f0) ?_
  refine e_iconst 40 hic_0 dX2_begin_39 rfl ?_
  refine c_Vv 43 (ci := 2) dX2_begin_40 (k_X2_note G hL hP3 (by decide) r2 (zArr_le hW.1.2.2.2.2.2.2 (fun j hj => (hS.2 j hj).2.2.2.2) (fun _ _ _ _ _ => Nat.zero_le _))) lm_X2_60 zi_yX2_note zs_yX2_note rfl hL.k0 hL.l0 rfl rfl rfl (Nat.le_of_ble_eq_true rfl) (Nat.le_of_ble_eq_true rfl) (Nat.le_of_ble_eq_true rfl) (Nat.le_refl _) (Nat.le_refl _) ?_
  rintro m3 _ _ ⟨a3, rfl, rfl⟩
  refine e_vreturn dX2_begin_43 rfl ?_
  refine ⟨rfl, fun q hq => ?_, ?_, rfl, rfl⟩
  · rw [a3.1 _ (by omega), a2 _ (by omega), hon _ (by omega)]
  · exact zNoted_R r2 hP3 (fun t ht => by omega) (fun p hp t ht => absurd ht (Nat.not_lt_zero _)) (fun t ht => absurd ht (Nat.not_lt_zero _)) (fun t ht => absurd ht (Nat.not_lt_zero _)) a3

set_option maxHeartbeats 4000000 in
set_option maxRecDepth 100000 in
theorem l_X2_replay (G : zG) (Q : zQ) {L D B w learn last : Nat} {Λ S : zLd} {mi : zFi} {ml : zFl} {mr : zFr} (hL : zLife mr L) (hD : zLandL mr D) (hB : zSongL mr B) (hW : zLandW Λ) (hS : zSongW (Λ 0 0) (Λ 0 1) S) (hw : w < Λ 0 1) (hln : learn ≤ 9) (hlast : last ≤ 99) (hDL : D + 6 ≤ L ∨ L + 11 ≤ D) (hBL : B + 5 ≤ L ∨ L + 11 ≤ B) (hΛ : zLandR mi D Λ) (hSg : zSongR mi B S) : ∀ (k y : Nat) (m : zFi), y + k = last → (∀ q, q < L + 2 ∨ L + 11 ≤ q → m q = mi q) → zLifeR m L (Λ 0 0) y (zLive Λ S learn w y) → (∀ a, (∀ q, q < L + 2 ∨ L + 11 ≤ q → a q = mi q) → zLifeR a L (Λ 0 0) last (zLive Λ S learn w last) → Q none a ml mr) → zE G (zRm 4 238 238) (zQm G 238 238 Q) yX2_replay.cls yX2_replay.name cX2_replay 7 none 238 10 [.ref L, .ref D, .ref B, .int (nI w), .int (nI learn), .int (nI last), .int (nI y)] [] 238 m ml mr := by
  intro k
  induction k with
  | zero =>
    intro y m h hon hR hQ
    have hl9 := hL.lt
    have hΛm := hΛ.congr (mi' := m) (fun j hj => hon _ (by omega))
    have hSm := hSg.congr (mi' := m) (fun j hj => hon _ (by omega))
    refine e_iload 12 dX2_replay_10 rfl rfl ?_
    refine e_iload 14 dX2_replay_12 rfl rfl ?_
    refine e_icmp_geN 34 17 dX2_replay_14 (by decide) rfl (by omega) (by omega) (fun h14 => ?_) (fun h14 => ?_)
    · obtain rfl : y = last := by omega
      refine e_vreturn dX2_replay_34 rfl ?_
      exact hQ m hon hR
    · exact absurd h14 (by omega)
  | succ k ih =>
    intro y m h hon hR hQ
    have hl9 := hL.lt
    have hΛm := hΛ.congr (mi' := m) (fun j hj => hon _ (by omega))
    have hSm := hSg.congr (mi' := m) (fun j hj => hon _ (by omega))
    refine e_iload 12 dX2_replay_10 rfl rfl ?_
    refine e_iload 14 dX2_replay_12 rfl rfl ?_
    refine e_icmp_geN 34 17 dX2_replay_14 (by decide) rfl (by omega) (by omega) (fun h14 => ?_) (fun h14 => ?_)
    · exact absurd h14 (by omega)
    · refine e_aload_n 18 dX2_replay_17 rfl rfl ?_
      refine e_aload_n 19 dX2_replay_18 rfl rfl ?_
      refine e_aload_n 20 dX2_replay_19 rfl rfl ?_
      refine e_iload_n 21 dX2_replay_20 rfl rfl ?_
      refine e_iload 23 dX2_replay_21 rfl rfl ?_
      refine e_iload 25 dX2_replay_23 rfl rfl ?_
      refine c_Vv 28 (ci := 2) dX2_replay_25 (k_X2_pass G hL hD hB hW hS hw hln (by omega) hDL hBL hΛm hSm hR (zLive_W hW hS hln y)) lm_X2_40 zi_yX2_pass zs_yX2_pass rfl hL.k0 hL.l0 rfl rfl rfl (Nat.le_of_ble_eq_true rfl) (Nat.le_of_ble_eq_true rfl) (Nat.le_of_ble_eq_true rfl) (Nat.le_refl _) (Nat.le_refl _) ?_
      rintro m1 _ _ ⟨a1, r1, rfl, rfl⟩
      refine e_iinc 31 dX2_replay_28 rfl (by decide) rfl (z_inc hii_1) (zst1_6 rfl) ?_
      refine e_goto 10 dX2_replay_31 (by decide) ?_
      exact ih (y + 1) m1 (by omega) (fun q hq => (a1 q hq).trans (hon q hq)) r1 hQ
set_option maxHeartbeats 4000000 in
set_option maxRecDepth 100000 in
theorem k_X2_replay (G : zG) {L D B w learn last : Nat} {Λ S : zLd} {mi : zFi} {ml : zFl} {mr : zFr} (hL : zLife mr L) (hD : zLandL mr D) (hB : zSongL mr B) (hW : zLandW Λ) (hS : zSongW (Λ 0 0) (Λ 0 1) S) (hw : w < Λ 0 1) (hln : learn ≤ 9) (hlast : last ≤ 99) (hDL : D + 6 ≤ L ∨ L + 11 ≤ D) (hBL : B + 5 ≤ L ∨ L + 11 ≤ B) (hΛ : zLandR mi D Λ) (hSg : zSongR mi B S) : zMet G 4 yX2_replay cX2_replay 7 none [.ref L, .ref D, .ref B, .int (nI w), .int (nI learn), .int (nI last)] 238 mi ml mr 238 (zPv fun a b c => (∀ q, q < L + 2 ∨ L + 11 ≤ q → a q = mi q) ∧ zLifeR a L (Λ 0 0) last (zLive Λ S learn w last) ∧ b = ml ∧ c = mr) := by
  refine z_intro ([.ref L, .ref D, .ref B, .int (nI w), .int (nI learn), .int (nI last), zx]) (by decide) rfl (Nat.le_of_ble_eq_true rfl) ?_
  refine e_aload_n 1 dX2_replay_0 rfl rfl ?_
  refine e_aload_n 2 dX2_replay_1 rfl rfl ?_
  refine e_aload_n 3 dX2_replay_2 rfl rfl ?_
  refine e_iload_n 4 dX2_replay_3 rfl rfl ?_
  refine c_Vv 7 (ci := 2) dX2_replay_4 (k_X2_begin G hL hD hB hW hS hw hDL hBL hΛ hSg) lm_X2_36 zi_yX2_begin zs_yX2_begin rfl hL.k0 hL.l0 rfl rfl rfl (Nat.le_of_ble_eq_true rfl) (Nat.le_of_ble_eq_true rfl) (Nat.le_of_ble_eq_true rfl) (Nat.le_refl _) (Nat.le_refl _) ?_
  rintro m1 _ _ ⟨a1, r1, rfl, rfl⟩
  refine e_iconst 8 hic_0 dX2_replay_7 rfl ?_
  refine e_istore 10 dX2_replay_8 rfl (by decide) (zst1_6 rfl) ?_
  exact l_X2_replay G _ hL hD hB hW hS hw hln hlast hDL hBL hΛ hSg last 0 m1 (by omega) a1 r1 (fun a h1 h2 => ⟨rfl, h1, h2, rfl, rfl⟩)

/-- the first year of the greatest f, from y on (k of them), b the best so far -/
def zPkF (f : Nat → Nat) : Nat → Nat → Nat → Nat
  | 0, _, b => b
  | k + 1, y, b => zPkF f k (y + 1) (if f b < f y then y else b)
def zPeakY (f : Nat → Nat) (Y : Nat) : Nat := zPkF f Y 1 0
theorem zPkF_le (f : Nat → Nat) (Y : Nat) : ∀ (k y b : Nat), y + k ≤ Y + 1 → b ≤ Y → zPkF f k y b ≤ Y
  | 0, _, _, _, h => h
  | k + 1, y, b, h1, h2 => by
    show zPkF f k (y + 1) _ ≤ Y
    refine zPkF_le f Y k (y + 1) _ (by omega) ?_
    split <;> omega
theorem zPeakY_le (f : Nat → Nat) (Y : Nat) : zPeakY f Y ≤ Y := zPkF_le f Y Y 1 0 (by omega) (by omega)
/-- the first of y, y + 1 .. (k of them) with P -/
def zFst (P : Nat → Bool) : Nat → Nat → Option Nat
  | 0, _ => none
  | k + 1, y => if P y = true then some y else zFst P k (y + 1)
def zOptI : Option Nat → Int32
  | some y => nI y
  | none => -9
def zOver (f : Nat → Nat) (Y : Nat) : Option Nat := zFst (fun y => decide (f y < 100)) (Y - zPeakY f Y) (zPeakY f Y + 1)
def zPrt (f : Nat → Nat) (Y : Nat) : Option Nat := zFst (fun y => decide (100 ≤ f y)) (Y + 1) 0
set_option maxHeartbeats 4000000 in
set_option maxRecDepth 100000 in
theorem l_X2_peakYear (G : zG) (d : Nat) (Q : zQ) {L Y : Nat} {f : Nat → Nat} {mi : zFi} {ml : zFl} {mr : zFr} (hL : zLife mr L) (hY : Y < 100) (hf : ∀ y, y ≤ Y → mi (L + 9) y = nI (f y)) (hle : ∀ y, y ≤ Y → f y ≤ 1000) : ∀ (k y b : Nat), y + k = Y + 1 → b ≤ Y → Q (some (.int (nI (zPkF f k y b)))) mi ml mr → zE G (zRm d 238 238) (zQm G 238 238 Q) yX2_peakYear.cls yX2_peakYear.name cX2_peakYear 4 (some .int) 238 4 [.ref L, .int (nI Y), .int (nI b), .int (nI y)] [] 238 mi ml mr := by
  intro k
  induction k with
  | zero =>
    intro y b h hb hQ
    refine e_iload_n 5 dX2_peakYear_4 rfl rfl ?_
    refine e_iload_n 6 dX2_peakYear_5 rfl rfl ?_
    refine e_icmp_gtN 32 9 dX2_peakYear_6 (by decide) rfl (by omega) (by omega) (fun h6 => ?_) (fun h6 => ?_)
    · refine e_iload_n 33 dX2_peakYear_32 rfl rfl ?_
      refine e_ireturn .int dX2_peakYear_33 rfl rfl ?_
      exact hQ
    · exact absurd h6 (by omega)
  | succ k ih =>
    intro y b h hb hQ
    have e0 : zPkF f (k + 1) y b = zPkF f k (y + 1) (if f b < f y then y else b) := rfl
    rw [e0] at hQ
    refine e_iload_n 5 dX2_peakYear_4 rfl rfl ?_
    refine e_iload_n 6 dX2_peakYear_5 rfl rfl ?_
    refine e_icmp_gtN 32 9 dX2_peakYear_6 (by decide) rfl (by omega) (by omega) (fun h6 => ?_) (fun h6 => ?_)
    · exact absurd h6 (by omega)
    · refine e_aload_n 10 dX2_peakYear_9 rfl rfl ?_
      refine e_getr 13 dX2_peakYear_10 lf_X2_19 rfl rfl hL.k0 hL.l0 hL.r2 ?_
      refine e_iload_n 14 dX2_peakYear_13 rfl rfl ?_
      refine e_iald 15 dX2_peakYear_14 rfl hL.k9 hL.l9 rfl (hL.n9 (by omega)) (hf y (by omega)) ?_
      refine e_aload_n 16 dX2_peakYear_15 rfl rfl ?_
      refine e_getr 19 dX2_peakYear_16 lf_X2_19 rfl rfl hL.k0 hL.l0 hL.r2 ?_
      refine e_iload_n 20 dX2_peakYear_19 rfl rfl ?_
      refine e_iald 21 dX2_peakYear_20 rfl hL.k9 hL.l9 rfl (hL.n9 (by omega)) (hf b (by omega)) ?_
      refine e_icmp_leN 26 24 dX2_peakYear_21 (by decide) rfl (by have := hle y (by omega); omega) (by have := hle b (by omega); omega) (fun h21 => ?_) (fun h21 => ?_)
      · refine e_iinc 29 dX2_peakYear_26 rfl (by decide) rfl (z_inc hii_1) (zst1_3 rfl) ?_
        refine e_goto 4 dX2_peakYear_29 (by decide) ?_
        first
          | (rw [if_neg (by omega)] at hQ; exact ih (y + 1) b (by omega) hb hQ)
          | (rw [if_pos (by omega)] at hQ; exact ih (y + 1) y (by omega) (by omega) hQ)
      · refine e_iload_n 25 dX2_peakYear_24 rfl rfl ?_
        refine e_istore_n 26 dX2_peakYear_25 rfl (by decide) (zst1_2 rfl) ?_
        refine e_iinc 29 dX2_peakYear_26 rfl (by decide) rfl (z_inc hii_1) (zst1_3 rfl) ?_
        refine e_goto 4 dX2_peakYear_29 (by decide) ?_
        first
          | (rw [if_neg (by omega)] at hQ; exact ih (y + 1) b (by omega) hb hQ)
          | (rw [if_pos (by omega)] at hQ; exact ih (y + 1) y (by omega) (by omega) hQ)
set_option maxHeartbeats 4000000 in
set_option maxRecDepth 100000 in
theorem k_X2_peakYear (G : zG) {L Y : Nat} {f : Nat → Nat} {mi : zFi} {ml : zFl} {mr : zFr} (hL : zLife mr L) (hY : Y < 100) (hf : ∀ y, y ≤ Y → mi (L + 9) y = nI (f y)) (hle : ∀ y, y ≤ Y → f y ≤ 1000) : zMet G 0 yX2_peakYear cX2_peakYear 4 (some .int) [.ref L, .int (nI Y)] 238 mi ml mr 238 (zPq (some (.int (nI (zPeakY f Y)))) mi ml mr) := by
  refine z_intro ([.ref L, .int (nI Y), zx, zx]) (by decide) rfl (Nat.le_of_ble_eq_true rfl) ?_
  refine e_iconst 1 hic_0 dX2_peakYear_0 rfl ?_
  refine e_istore_n 2 dX2_peakYear_1 rfl (by decide) (zst1_2 rfl) ?_
  refine e_iconst 3 hic_1 dX2_peakYear_2 rfl ?_
  refine e_istore_n 4 dX2_peakYear_3 rfl (by decide) (zst1_3 rfl) ?_
  exact l_X2_peakYear G _ _ hL hY hf hle Y 1 0 (by omega) (by omega) ⟨rfl, rfl, rfl, rfl⟩

set_option maxHeartbeats 4000000 in
set_option maxRecDepth 100000 in
theorem k_X2_peak (G : zG) {L Y : Nat} {f : Nat → Nat} {mi : zFi} {ml : zFl} {mr : zFr} (hL : zLife mr L) (hY : Y < 100) (hf : ∀ y, y ≤ Y → mi (L + 9) y = nI (f y)) (hle : ∀ y, y ≤ Y → f y ≤ 1000) : zMet G 1 yX2_peak cX2_peak 2 (some .int) [.ref L, .int (nI Y)] 238 mi ml mr 238 (zPq (some (.int (nI (f (zPeakY f Y))))) mi ml mr) := by
  refine z_intro ([.ref L, .int (nI Y)]) (by decide) rfl (Nat.le_of_ble_eq_true rfl) ?_
  refine e_aload_n 1 dX2_peak_0 rfl rfl ?_
  refine e_getr 4 dX2_peak_1 lf_X2_19 rfl rfl hL.k0 hL.l0 hL.r2 ?_
  refine e_aload_n 5 dX2_peak_4 rfl rfl ?_
  refine e_iload_n 6 dX2_peak_5 rfl rfl ?_
  refine c_Vqi 9 (ci := 2) dX2_peak_6 (k_X2_peakYear G hL hY hf hle) lm_X2_142 zi_yX2_peakYear zs_yX2_peakYear rfl hL.k0 hL.l0 rfl rfl rfl (Nat.le_of_ble_eq_true rfl) (Nat.le_of_ble_eq_true rfl) (Nat.le_of_ble_eq_true rfl) (Nat.le_refl _) (Nat.le_refl _) ?_
  refine e_iald 10 dX2_peak_9 rfl hL.k9 hL.l9 rfl (hL.n9 (by have := zPeakY_le f Y; omega)) (hf _ (zPeakY_le f Y)) ?_
  refine e_ireturn .int dX2_peak_10 rfl rfl ?_
  exact ⟨rfl, rfl, rfl, rfl⟩

set_option maxHeartbeats 4000000 in
set_option maxRecDepth 100000 in
theorem l_X2_overYear (G : zG) (d : Nat) (Q : zQ) {L Y : Nat} {f : Nat → Nat} {mi : zFi} {ml : zFl} {mr : zFr} (hL : zLife mr L) (hY : Y < 100) (hf : ∀ y, y ≤ Y → mi (L + 9) y = nI (f y)) (hle : ∀ y, y ≤ Y → f y ≤ 1000) : ∀ (k y : Nat), y + k = Y + 1 → Q (some (.int (zOptI (zFst (fun y => decide (f y < 100)) k y)))) mi ml mr → zE G (zRm d 238 238) (zQm G 238 238 Q) yX2_overYear.cls yX2_overYear.name cX2_overYear 3 (some .int) 238 8 [.ref L, .int (nI Y), .int (nI y)] [] 238 mi ml mr := by
  intro k
  induction k with
  | zero =>
    intro y h hQ
    refine e_iload_n 9 dX2_overYear_8 rfl rfl ?_
    refine e_iload_n 10 dX2_overYear_9 rfl rfl ?_
    refine e_icmp_gtN 32 13 dX2_overYear_10 (by decide) rfl (by omega) (by omega) (fun h10 => ?_) (fun h10 => ?_)
    · refine e_bipush 34 hbi_m9 dX2_overYear_32 rfl ?_
      refine e_ireturn .int dX2_overYear_34 rfl rfl ?_
      exact hQ
    · exact absurd h10 (by omega)
  | succ k ih =>
    intro y h hQ
    have e0 : zFst (fun y => decide (f y < 100)) (k + 1) y = if decide (f y < 100) = true then some y else zFst (fun y => decide (f y < 100)) k (y + 1) := rfl
    rw [e0] at hQ
    refine e_iload_n 9 dX2_overYear_8 rfl rfl ?_
    refine e_iload_n 10 dX2_overYear_9 rfl rfl ?_
    refine e_icmp_gtN 32 13 dX2_overYear_10 (by decide) rfl (by omega) (by omega) (fun h10 => ?_) (fun h10 => ?_)
    · exact absurd h10 (by omega)
    · refine e_aload_n 14 dX2_overYear_13 rfl rfl ?_
      refine e_getr 17 dX2_overYear_14 lf_X2_19 rfl rfl hL.k0 hL.l0 hL.r2 ?_
      refine e_iload_n 18 dX2_overYear_17 rfl rfl ?_
      refine e_iald 19 dX2_overYear_18 rfl hL.k9 hL.l9 rfl (hL.n9 (by omega)) (hf y (by omega)) ?_
      refine e_bipush 21 hbi_100 dX2_overYear_19 rfl ?_
      refine e_icmp_geN 26 24 dX2_overYear_21 (by decide) rfl (by have := hle y (by omega); omega) (by decide) (fun h21 => ?_) (fun h21 => ?_)
      · refine e_iinc 29 dX2_overYear_26 rfl (by decide) rfl (z_inc hii_1) (zst1_2 rfl) ?_
        refine e_goto 8 dX2_overYear_29 (by decide) ?_
        rw [if_neg (by simp only [decide_eq_true_eq]; omega)] at hQ
        exact ih (y + 1) (by omega) hQ
      · refine e_iload_n 25 dX2_overYear_24 rfl rfl ?_
        refine e_ireturn .int dX2_overYear_25 rfl rfl ?_
        rw [if_pos (by simp only [decide_eq_true_eq]; omega)] at hQ
        exact hQ
set_option maxHeartbeats 4000000 in
set_option maxRecDepth 100000 in
theorem k_X2_overYear (G : zG) {L Y : Nat} {f : Nat → Nat} {mi : zFi} {ml : zFl} {mr : zFr} (hL : zLife mr L) (hY : Y < 100) (hf : ∀ y, y ≤ Y → mi (L + 9) y = nI (f y)) (hle : ∀ y, y ≤ Y → f y ≤ 1000) : zMet G 1 yX2_overYear cX2_overYear 3 (some .int) [.ref L, .int (nI Y)] 238 mi ml mr 238 (zPq (some (.int (zOptI (zOver f Y)))) mi ml mr) := by
  refine z_intro ([.ref L, .int (nI Y), zx]) (by decide) rfl (Nat.le_of_ble_eq_true rfl) ?_
  refine e_aload_n 1 dX2_overYear_0 rfl rfl ?_
  refine e_iload_n 2 dX2_overYear_1 rfl rfl ?_
  refine c_Vqi 5 (ci := 2) dX2_overYear_2 (k_X2_peakYear G hL hY hf hle) lm_X2_142 zi_yX2_peakYear zs_yX2_peakYear rfl hL.k0 hL.l0 rfl rfl rfl (Nat.le_of_ble_eq_true rfl) (Nat.le_of_ble_eq_true rfl) (Nat.le_of_ble_eq_true rfl) (Nat.le_refl _) (Nat.le_refl _) ?_
  refine e_iconst 6 hic_1 dX2_overYear_5 rfl ?_
  first | refine e_iaddN 7 dX2_overYear_6 rfl ?_ | refine e_iadd 7 dX2_overYear_6 rfl ?_
  refine e_istore_n 8 dX2_overYear_7 rfl (by decide) (zst1_2 rfl) ?_
  exact l_X2_overYear G _ _ hL hY hf hle (Y - zPeakY f Y) (zPeakY f Y + 1) (by have := zPeakY_le f Y; omega) ⟨rfl, rfl, rfl, rfl⟩

set_option maxHeartbeats 4000000 in
set_option maxRecDepth 100000 in
theorem l_X2_parentsYear (G : zG) (d : Nat) (Q : zQ) {L Y : Nat} {f : Nat → Nat} {mi : zFi} {ml : zFl} {mr : zFr} (hL : zLife mr L) (hY : Y < 100) (hf : ∀ y, y ≤ Y → mi (L + 10) y = nI (f y)) (hle : ∀ y, y ≤ Y → f y ≤ 1000) : ∀ (k y : Nat), y + k = Y + 1 → Q (some (.int (zOptI (zFst (fun y => decide (100 ≤ f y)) k y)))) mi ml mr → zE G (zRm d 238 238) (zQm G 238 238 Q) yX2_parentsYear.cls yX2_parentsYear.name cX2_parentsYear 3 (some .int) 238 2 [.ref L, .int (nI Y), .int (nI y)] [] 238 mi ml mr := by
  intro k
  induction k with
  | zero =>
    intro y h hQ
    refine e_iload_n 3 dX2_parentsYear_2 rfl rfl ?_
    refine e_iload_n 4 dX2_parentsYear_3 rfl rfl ?_
    refine e_icmp_gtN 26 7 dX2_parentsYear_4 (by decide) rfl (by omega) (by omega) (fun h4 => ?_) (fun h4 => ?_)
    · refine e_bipush 28 hbi_m9 dX2_parentsYear_26 rfl ?_
      refine e_ireturn .int dX2_parentsYear_28 rfl rfl ?_
      exact hQ
    · exact absurd h4 (by omega)
  | succ k ih =>
    intro y h hQ
    have e0 : zFst (fun y => decide (100 ≤ f y)) (k + 1) y = if decide (100 ≤ f y) = true then some y else zFst (fun y => decide (100 ≤ f y)) k (y + 1) := rfl
    rw [e0] at hQ
    refine e_iload_n 3 dX2_parentsYear_2 rfl rfl ?_
    refine e_iload_n 4 dX2_parentsYear_3 rfl rfl ?_
    refine e_icmp_gtN 26 7 dX2_parentsYear_4 (by decide) rfl (by omega) (by omega) (fun h4 => ?_) (fun h4 => ?_)
    · exact absurd h4 (by omega)
    · refine e_aload_n 8 dX2_parentsYear_7 rfl rfl ?_
      refine e_getr 11 dX2_parentsYear_8 lf_X2_23 rfl rfl hL.k0 hL.l0 hL.r3 ?_
      refine e_iload_n 12 dX2_parentsYear_11 rfl rfl ?_
      refine e_iald 13 dX2_parentsYear_12 rfl hL.k10 hL.l10 rfl (hL.n10 (by omega)) (hf y (by omega)) ?_
      refine e_bipush 15 hbi_100 dX2_parentsYear_13 rfl ?_
      refine e_icmp_ltN 20 18 dX2_parentsYear_15 (by decide) rfl (by have := hle y (by omega); omega) (by decide) (fun h15 => ?_) (fun h15 => ?_)
      · refine e_iinc 23 dX2_parentsYear_20 rfl (by decide) rfl (z_inc hii_1) (zst1_2 rfl) ?_
        refine e_goto 2 dX2_parentsYear_23 (by decide) ?_
        rw [if_neg (by simp only [decide_eq_true_eq]; omega)] at hQ
        exact ih (y + 1) (by omega) hQ
      · refine e_iload_n 19 dX2_parentsYear_18 rfl rfl ?_
        refine e_ireturn .int dX2_parentsYear_19 rfl rfl ?_
        rw [if_pos (by simp only [decide_eq_true_eq]; omega)] at hQ
        exact hQ
set_option maxHeartbeats 4000000 in
set_option maxRecDepth 100000 in
theorem k_X2_parentsYear (G : zG) {L Y : Nat} {f : Nat → Nat} {mi : zFi} {ml : zFl} {mr : zFr} (hL : zLife mr L) (hY : Y < 100) (hf : ∀ y, y ≤ Y → mi (L + 10) y = nI (f y)) (hle : ∀ y, y ≤ Y → f y ≤ 1000) : zMet G 0 yX2_parentsYear cX2_parentsYear 3 (some .int) [.ref L, .int (nI Y)] 238 mi ml mr 238 (zPq (some (.int (zOptI (zPrt f Y)))) mi ml mr) := by
  refine z_intro ([.ref L, .int (nI Y), zx]) (by decide) rfl (Nat.le_of_ble_eq_true rfl) ?_
  refine e_iconst 1 hic_0 dX2_parentsYear_0 rfl ?_
  refine e_istore_n 2 dX2_parentsYear_1 rfl (by decide) (zst1_2 rfl) ?_
  exact l_X2_parentsYear G _ _ hL hY hf hle (Y + 1) 0 (by omega) ⟨rfl, rfl, rfl, rfl⟩

/-- the first age of the greatest g, from a on (k of them) -/
def zKpF (g : Nat → Nat) : Nat → Nat → Nat → Nat → Nat
  | 0, _, b, _ => b
  | k + 1, a, b, m => zKpF g k (a + 1) (if m < g a then a else b) (if m < g a then g a else m)
def zKept (N : Nat) (sh : Nat → Nat → Nat) : Nat := zKpF (fun a => zsum (fun p => sh p a) 0 N) 60 10 10 0
set_option maxHeartbeats 4000000 in
set_option maxRecDepth 100000 in
theorem m_X2_keptAge (G : zG) (d : Nat) (Q : zQ) {L N : Nat} {sh : Nat → Nat → Nat} {mi : zFi} {ml : zFl} {mr : zFr} (hL : zLife mr L) (hN : N ≤ 3) (hR : zRows L N sh mi) (hle : ∀ p, p < N → zLe (sh p)) {a b m : Nat} (h10 : 10 ≤ a) (h69 : a ≤ 69) : ∀ (k p s : Nat), p + k = N → zE G (zRm d 238 238) (zQm G 238 238 Q) yX2_keptAge.cls yX2_keptAge.name cX2_keptAge 7 (some .int) 238 49 [.ref L, .int (nI N), .int (nI b), .int (nI m), .int (nI a), .int (nI (s + zsum (fun p => sh p a) p k)), .int (nI N)] [] 238 mi ml mr → zE G (zRm d 238 238) (zQm G 238 238 Q) yX2_keptAge.cls yX2_keptAge.name cX2_keptAge 7 (some .int) 238 22 [.ref L, .int (nI N), .int (nI b), .int (nI m), .int (nI a), .int (nI s), .int (nI p)] [] 238 mi ml mr := by
  intro k
  induction k with
  | zero =>
    intro p s h hQ
    refine e_iload 24 dX2_keptAge_22 rfl rfl ?_
    refine e_iload_n 25 dX2_keptAge_24 rfl rfl ?_
    refine e_icmp_geN 49 28 dX2_keptAge_25 (by decide) rfl (by omega) (by omega) (fun h25 => ?_) (fun h25 => ?_)
    · obtain rfl : p = N := by omega
      exact hQ
    · exact absurd h25 (by omega)
  | succ k ih =>
    intro p s h hQ
    have e0 : s + zsum (fun p => sh p a) p (k + 1) = s + sh p a + zsum (fun p => sh p a) (p + 1) k := by show s + (sh p a + _) = _; rw [Nat.add_assoc]
    rw [e0] at hQ
    refine e_iload 24 dX2_keptAge_22 rfl rfl ?_
    refine e_iload_n 25 dX2_keptAge_24 rfl rfl ?_
    refine e_icmp_geN 49 28 dX2_keptAge_25 (by decide) rfl (by omega) (by omega) (fun h25 => ?_) (fun h25 => ?_)
    · exact absurd h25 (by omega)
    · refine e_iload 30 dX2_keptAge_28 rfl rfl ?_
      refine e_aload_n 31 dX2_keptAge_30 rfl rfl ?_
      refine e_getr 34 dX2_keptAge_31 lf_X2_11 rfl rfl hL.k0 hL.l0 hL.r0 ?_
      refine e_iload 36 dX2_keptAge_34 rfl rfl ?_
      refine e_aald 37 dX2_keptAge_36 rfl hL.k1 hL.l1 rfl (hL.n1 (by omega)) (hL.sh (by omega)) ?_
      refine e_iload 39 dX2_keptAge_37 rfl rfl ?_
      refine e_iald 40 dX2_keptAge_39 rfl (hL.ks (by omega)) (hL.ls (by omega)) rfl (hL.na (by omega) (by omega)) (hR p (by omega) a (by omega) (by omega)) ?_
      first | refine e_iaddN 41 dX2_keptAge_40 rfl ?_ | refine e_iadd 41 dX2_keptAge_40 rfl ?_
      refine e_istore 43 dX2_keptAge_41 rfl (by decide) (zst1_5 rfl) ?_
      refine e_iinc 46 dX2_keptAge_43 rfl (by decide) rfl (z_inc hii_1) (zst1_6 rfl) ?_
      refine e_goto 22 dX2_keptAge_46 (by decide) ?_
      exact ih (p + 1) _ (by omega) hQ
set_option maxHeartbeats 4000000 in
set_option maxRecDepth 100000 in
theorem l_X2_keptAge (G : zG) (d : Nat) (Q : zQ) {L N : Nat} {sh : Nat → Nat → Nat} {mi : zFi} {ml : zFl} {mr : zFr} (hL : zLife mr L) (hN : N ≤ 3) (hR : zRows L N sh mi) (hle : ∀ p, p < N → zLe (sh p)) : ∀ (k a b m : Nat) (v5 v6 : Value), 10 ≤ a → a + k = 70 → m ≤ 3000 → Q (some (.int (nI (zKpF (fun a => zsum (fun p => sh p a) 0 N) k a b m)))) mi ml mr → zE G (zRm d 238 238) (zQm G 238 238 Q) yX2_keptAge.cls yX2_keptAge.name cX2_keptAge 7 (some .int) 238 9 [.ref L, .int (nI N), .int (nI b), .int (nI m), .int (nI a), v5, v6] [] 238 mi ml mr := by
  intro k
  induction k with
  | zero =>
    intro a b m v5 v6 h10 h hm hQ
    refine e_iload 11 dX2_keptAge_9 rfl rfl ?_
    refine e_bipush 13 hbi_69 dX2_keptAge_11 rfl ?_
    refine e_icmp_gtN 67 16 dX2_keptAge_13 (by decide) rfl (by omega) (by omega) (fun h13 => ?_) (fun h13 => ?_)
    · refine e_iload_n 68 dX2_keptAge_67 rfl rfl ?_
      refine e_ireturn .int dX2_keptAge_68 rfl rfl ?_
      exact hQ
    · exact absurd h13 (by omega)
  | succ k ih =>
    intro a b m v5 v6 h10 h hm hQ
    have h69 : a ≤ 69 := by omega
    have hsa := zsum_le (f := fun p => sh p a) (M := 1000) N 0 (fun i h1 h2 => hle i (by omega) a (by omega) (by omega))
    have hs3 : N * 1000 ≤ 3 * 1000 := Nat.mul_le_mul_right _ hN
    have e0 : zKpF (fun a => zsum (fun p => sh p a) 0 N) (k + 1) a b m = zKpF (fun a => zsum (fun p => sh p a) 0 N) k (a + 1) (if m < zsum (fun p => sh p a) 0 N then a else b) (if m < zsum (fun p => sh p a) 0 N then zsum (fun p => sh p a) 0 N else m) := rfl
    rw [e0] at hQ
    refine e_iload 11 dX2_keptAge_9 rfl rfl ?_
    refine e_bipush 13 hbi_69 dX2_keptAge_11 rfl ?_
    refine e_icmp_gtN 67 16 dX2_keptAge_13 (by decide) rfl (by omega) (by omega) (fun h13 => ?_) (fun h13 => ?_)
    · exact absurd h13 (by omega)
    · refine e_iconst 17 hic_0 dX2_keptAge_16 rfl ?_
      refine e_istore 19 dX2_keptAge_17 rfl (by decide) (zst1_5 rfl) ?_
      refine e_iconst 20 hic_0 dX2_keptAge_19 rfl ?_
      refine e_istore 22 dX2_keptAge_20 rfl (by decide) (zst1_6 rfl) ?_
      refine m_X2_keptAge G _ _ hL hN hR hle h10 h69 N 0 0 (by omega) ?_
      rw [Nat.zero_add]
      refine e_iload 51 dX2_keptAge_49 rfl rfl ?_
      refine e_iload_n 52 dX2_keptAge_51 rfl rfl ?_
      refine e_icmp_leN 61 55 dX2_keptAge_52 (by decide) rfl (by omega) (by omega) (fun h52 => ?_) (fun h52 => ?_)
      · refine e_iinc 64 dX2_keptAge_61 rfl (by decide) rfl (z_inc hii_1) (zst1_4 rfl) ?_
        refine e_goto 9 dX2_keptAge_64 (by decide) ?_
        first
          | (rw [if_neg (by omega), if_neg (by omega)] at hQ; exact ih (a + 1) b m _ _ (by omega) (by omega) (by omega) hQ)
          | (rw [if_pos (by omega), if_pos (by omega)] at hQ; exact ih (a + 1) a _ _ _ (by omega) (by omega) (by omega) hQ)
      · refine e_iload 57 dX2_keptAge_55 rfl rfl ?_
        refine e_istore_n 58 dX2_keptAge_57 rfl (by decide) (zst1_3 rfl) ?_
        refine e_iload 60 dX2_keptAge_58 rfl rfl ?_
        refine e_istore_n 61 dX2_keptAge_60 rfl (by decide) (zst1_2 rfl) ?_
        refine e_iinc 64 dX2_keptAge_61 rfl (by decide) rfl (z_inc hii_1) (zst1_4 rfl) ?_
        refine e_goto 9 dX2_keptAge_64 (by decide) ?_
        first
          | (rw [if_neg (by omega), if_neg (by omega)] at hQ; exact ih (a + 1) b m _ _ (by omega) (by omega) (by omega) hQ)
          | (rw [if_pos (by omega), if_pos (by omega)] at hQ; exact ih (a + 1) a _ _ _ (by omega) (by omega) (by omega) hQ)
set_option maxHeartbeats 4000000 in
set_option maxRecDepth 100000 in
theorem k_X2_keptAge (G : zG) {L N : Nat} {sh : Nat → Nat → Nat} {mi : zFi} {ml : zFl} {mr : zFr} (hL : zLife mr L) (hN : N ≤ 3) (hR : zRows L N sh mi) (hle : ∀ p, p < N → zLe (sh p)) : zMet G 0 yX2_keptAge cX2_keptAge 7 (some .int) [.ref L, .int (nI N)] 238 mi ml mr 238 (zPq (some (.int (nI (zKept N sh)))) mi ml mr) := by
  refine z_intro ([.ref L, .int (nI N), zx, zx, zx, zx, zx]) (by decide) rfl (Nat.le_of_ble_eq_true rfl) ?_
  refine e_bipush 2 hbi_10 dX2_keptAge_0 rfl ?_
  refine e_istore_n 3 dX2_keptAge_2 rfl (by decide) (zst1_2 rfl) ?_
  refine e_iconst 4 hic_0 dX2_keptAge_3 rfl ?_
  refine e_istore_n 5 dX2_keptAge_4 rfl (by decide) (zst1_3 rfl) ?_
  refine e_bipush 7 hbi_10 dX2_keptAge_5 rfl ?_
  refine e_istore 9 dX2_keptAge_7 rfl (by decide) (zst1_4 rfl) ?_
  exact l_X2_keptAge G _ _ hL hN hR hle 60 10 10 0 _ _ (by omega) (by omega) (by omega) ⟨rfl, rfl, rfl, rfl⟩

