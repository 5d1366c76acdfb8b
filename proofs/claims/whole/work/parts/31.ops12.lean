def zByte (v : Int64) (k : Nat) : Nat := v.toBitVec.toNat / 2 ^ (8 * k) % 256
theorem zByte_lt (v : Int64) (k : Nat) : zByte v k < 256 := Nat.mod_lt _ (by decide)
theorem zBy_and (x : BitVec 64) : x &&& 255#64 = BitVec.ofNat 64 (x.toNat % 256) := by
  apply BitVec.eq_of_toNat_eq
  rw [BitVec.toNat_and, BitVec.toNat_ofNat]
  show x.toNat &&& (2 ^ 8 - 1) = _
  rw [Nat.and_two_pow_sub_one_eq_mod]
  exact (Nat.mod_eq_of_lt (by omega)).symm
theorem zBy_u (v : Int64) : ∀ k, k < 8 → ((v.toUInt64 >>> ((nI (8 * k)).toInt64.toUInt64 &&& Int64.toUInt64 63)).toInt64 &&& lN 255) = lN (zByte v k) := by
  intro k hk
  apply Int64.toBitVec_inj.mp
  have h : (v.toUInt64 >>> ((nI (8 * k)).toInt64.toUInt64 &&& Int64.toUInt64 63)).toInt64.toBitVec = v.toBitVec >>> (8 * k) := by
    have h8 : k = 0 ∨ k = 1 ∨ k = 2 ∨ k = 3 ∨ k = 4 ∨ k = 5 ∨ k = 6 ∨ k = 7 := by omega
    rcases h8 with q | q | q | q | q | q | q | q <;> subst q <;> rfl
  rw [Int64.toBitVec_and, h]
  show _ &&& 255#64 = BitVec.ofNat 64 _
  rw [zBy_and, BitVec.toNat_ushiftRight, Nat.shiftRight_eq_div_pow]
  rfl
theorem zBy_s (v : Int64) : ∀ k, k < 8 → ((v >>> ((nI (8 * k)).toInt64 &&& 63)) &&& lN 255) = lN (zByte v k) := by
  intro k hk
  apply Int64.toBitVec_inj.mp
  have h : (v >>> ((nI (8 * k)).toInt64 &&& 63)).toBitVec = v.toBitVec.sshiftRight (8 * k) := by
    have h8 : k = 0 ∨ k = 1 ∨ k = 2 ∨ k = 3 ∨ k = 4 ∨ k = 5 ∨ k = 6 ∨ k = 7 := by omega
    rcases h8 with q | q | q | q | q | q | q | q <;> subst q <;> rfl
  rw [Int64.toBitVec_and, h]
  show _ &&& 255#64 = BitVec.ofNat 64 _
  have e : v.toBitVec.sshiftRight (8 * k) &&& 255#64 = (v.toBitVec >>> (8 * k)) &&& 255#64 := by
    apply BitVec.eq_of_getLsbD_eq
    intro i hi
    rw [BitVec.getLsbD_and, BitVec.getLsbD_and]
    by_cases q : i < 8
    · rw [BitVec.getLsbD_sshiftRight, BitVec.getLsbD_ushiftRight]
      rw [if_pos (by omega)]
      congr 1
      simp
      omega
    · have : (255#64).getLsbD i = false := by
        have : i < 64 := hi
        have h9 : ∀ i, i < 64 → ¬ i < 8 → (255#64).getLsbD i = false := by decide
        exact h9 i hi q
      rw [this, Bool.and_false, Bool.and_false]
  rw [e, zBy_and, BitVec.toNat_ushiftRight, Nat.shiftRight_eq_div_pow]
  rfl
theorem zBy_i : ∀ k, k < 256 → (lN k).toInt32 = nI k := by decide +kernel
theorem zBy_c : ∀ k, k < 256 → ((nI k).toUInt32 % 65536).toInt32 = nI k := by decide +kernel
/-- the year of an over, 99 without one -/
def zOr : Option Nat → Int32
  | some y => nI y
  | none => nI 99
theorem zOr_0 {o : Option Nat} (h : zOptI o = -9) (hb : ∀ y, o = some y → y < 100) : nI 99 = zOr o := by
  cases o with
  | none => rfl
  | some y =>
    have h1 := hb y rfl
    have h2 : (nI y).toInt = -9 := by
      have h3 : nI y = -9 := h
      rw [h3]; decide
    rw [nI_toInt (by omega)] at h2
    omega
theorem zOr_1 {o : Option Nat} (h : ¬ zOptI o = -9) : zOptI o = zOr o := by
  cases o with
  | none => exact absurd rfl h
  | some y => rfl
theorem zFst_b {P : Nat → Bool} : ∀ (k y z : Nat), zFst P k y = some z → z < y + k
  | 0, _, _, h => by cases h
  | k + 1, y, z, h => by
    have e : zFst P (k + 1) y = if P y = true then some y else zFst P k (y + 1) := rfl
    rw [e] at h
    split at h
    · cases h; omega
    · have := zFst_b k (y + 1) z h; omega
theorem zOver_b {f : Nat → Nat} {Y : Nat} : ∀ y, zOver f Y = some y → y < Y + 1 := fun y h => by
  have h1 := zFst_b _ _ _ h
  have h2 := zPeakY_le f Y
  omega
/-- in which year a word is over, of all that may be -/
def zLast (Λ : zLd) (m : zMo) (w learn : Nat) : Int32 := zOr (zOver (zYm (Λ 0 0) (zLive Λ m.2.2.1 learn w 99).2.1) 99)
def sKillOk (Λ : zLd) (m : zMo) (w : Int32) : Prop := vN w (Λ 0 1) ∧ Λ 3 (zK w) ≤ m.1
def sKillOk_dec (Λ : zLd) (m : zMo) (w : Int32) : Decidable (sKillOk Λ m w) := by unfold sKillOk; exact @instDecidableAnd _ _ (vN_dec _ _) inferInstance
def sKills (Λ : zLd) (m : zMo) (w : Int32) : Int32 := @ite _ (sKillOk Λ m w) (sKillOk_dec Λ m w) (zLast Λ m (zK w) 0 - zLast Λ m (zK w) (Λ 0 3)) (-1000000)
def sPart (Λ : zLd) (m : zMo) (w : Int32) : Int32 := @ite _ (vN w (Λ 0 1)) (vN_dec _ _) (nI (zPeakV Λ m.1 (m.2.2.2 (zK w))) - nI (zPeakV Λ m.1 (zLive Λ zS0 (Λ 0 3) (zK w) m.1))) (-1000000)
theorem zRec.t {a b c : zFi} (h1 : zRec a b) (h2 : zRec b c) : zRec a c := fun q hq => (h2 q hq).trans (h1 q hq)
theorem zRec.l {a b : zFi} (h : ∀ q, q < 77 + 2 ∨ 77 + 11 ≤ q → b q = a q) : zRec a b := fun q hq => h q (by omega)
set_option maxHeartbeats 4000000 in
set_option maxRecDepth 100000 in
theorem k_X7_lastOver (G : zG) {D E : Nat} {Λ : zLd} {late : Nat} {tr : Int64} {t : zTx} {m : zMo} {im : Nat → Nat × zMo} {l : zLt} {r : zWr} {mi : zFi} {ml : zFl} {mr : zFr} (hr : zRf mr D E) (hX : zX mi ml D Λ late tr t m im l r) (hF : zWf Λ late t m im l r) {w learn : Nat} (hw9 : w < Λ 0 1) (hln : learn ≤ 9) : zMet G 5 yX7_lastOver cX7_lastOver 4 (some .int) [.ref 0, .int (nI w), .int (nI learn)] 238 mi ml mr 238 (zPi fun x u b c => x = zLast Λ m w learn ∧ zRec mi u ∧ b = ml ∧ c = mr) := by
  obtain ⟨hΛ, hlate, htr, ht, hm, him, hl, hw, hn72⟩ := id hX
  obtain ⟨hW, hla30, htw, hmw, himw, hlw, hrw⟩ := id hF
  have hP3 := hW.1.1
  have hW5 := hW.1.2.1
  have hy99 := hmw.1
  have hD9 := hr.Dl
  refine z_intro ([.ref 0, .int (nI w), .int (nI learn), zx]) (by decide) rfl (Nat.le_of_ble_eq_true rfl) ?_
  refine e_aload_n 1 dX7_lastOver_0 rfl rfl ?_
  refine e_getr 4 dX7_lastOver_1 lf_X7_55 rfl rfl rfl (by decide) hr.trial ?_
  refine e_aload_n 5 dX7_lastOver_4 rfl rfl ?_
  refine e_getr 8 dX7_lastOver_5 lf_X7_62 rfl rfl rfl (by decide) hr.land ?_
  refine e_aload_n 9 dX7_lastOver_8 rfl rfl ?_
  refine e_getr 12 dX7_lastOver_9 lf_X7_19 rfl rfl rfl (by decide) hr.now ?_
  refine e_getr 15 dX7_lastOver_12 lf_X7_173 rfl rfl rfl (by decide) hr.m3.r2 ?_
  refine e_iload_n 16 dX7_lastOver_15 rfl rfl ?_
  refine e_iload_n 17 dX7_lastOver_16 rfl rfl ?_
  refine e_bipush 19 hbi_99 dX7_lastOver_17 rfl ?_
  refine c_Vv 22 (ci := 2) dX7_lastOver_19 (k_X2_replay G hr.l77 hr.dD hr.m3.sg hW hmw.2.1 hw9 hln (by decide) (by omega) (by omega) hΛ hm.2.2.1) lm_X7_259 zi_yX2_replay zs_yX2_replay rfl rfl (by decide) rfl rfl rfl (Nat.le_of_ble_eq_true rfl) (Nat.le_of_ble_eq_true rfl) (Nat.le_of_ble_eq_true rfl) (by exact Nat.le_refl _) (by exact Nat.le_refl _) ?_
  rintro a _ _ ⟨o1, r1, rfl, rfl⟩
  have hL9 := zLive_W (w := w) hW hmw.2.1 hln 99
  refine e_aload_n 23 dX7_lastOver_22 rfl rfl ?_
  refine e_getr 26 dX7_lastOver_23 lf_X7_55 rfl rfl rfl (by decide) hr.trial ?_
  refine e_bipush 28 hbi_99 dX7_lastOver_26 rfl ?_
  refine c_Vqi 31 (ci := 2) dX7_lastOver_28 (k_X2_overYear G hr.l77 (by decide) (fun y hy => r1.2.2.1 y hy) (zYm_le hL9)) lm_X7_198 zi_yX2_overYear zs_yX2_overYear rfl rfl (by decide) rfl rfl rfl (Nat.le_of_ble_eq_true rfl) (Nat.le_of_ble_eq_true rfl) (Nat.le_of_ble_eq_true rfl) (by exact Nat.le_refl _) (by exact Nat.le_refl _) ?_
  refine e_istore_n 32 dX7_lastOver_31 rfl (by decide) (zst1_3 rfl) ?_
  refine e_iload_n 33 dX7_lastOver_32 rfl rfl ?_
  refine e_bipush 35 hbi_m9 dX7_lastOver_33 rfl ?_
  refine e_icmp_ne 43 38 dX7_lastOver_35 (by decide) rfl (fun h35 => ?_) (fun h35 => ?_)
  · refine e_iload_n 44 dX7_lastOver_43 rfl rfl ?_
    refine e_ireturn .int dX7_lastOver_44 rfl rfl ?_
    exact ⟨_, rfl, by first | exact zOr_0 h35 (fun y hy => zOver_b y hy) | exact zOr_1 h35, zRec.l o1, rfl, rfl⟩
  · refine e_bipush 40 hbi_99 dX7_lastOver_38 rfl ?_
    refine e_goto 44 dX7_lastOver_40 (by decide) ?_
    refine e_ireturn .int dX7_lastOver_44 rfl rfl ?_
    exact ⟨_, rfl, by first | exact zOr_0 h35 (fun y hy => zOver_b y hy) | exact zOr_1 h35, zRec.l o1, rfl, rfl⟩

set_option maxHeartbeats 4000000 in
set_option maxRecDepth 100000 in
theorem k_X7_kills (G : zG) {D E : Nat} {Λ : zLd} {late : Nat} {tr : Int64} {t : zTx} {m : zMo} {im : Nat → Nat × zMo} {l : zLt} {r : zWr} {mi : zFi} {ml : zFl} {mr : zFr} (hr : zRf mr D E) (hX : zX mi ml D Λ late tr t m im l r) (hF : zWf Λ late t m im l r) {w : Int32} : zMet G 6 yX7_kills cX7_kills 2 (some .int) [.ref 0, .int w] 238 mi ml mr 238 (zPi fun x u b c => x = sKills Λ m w ∧ zX u b D Λ late tr t m im l r ∧ (∀ q, 224 ≤ q → u q = mi q) ∧ b = ml ∧ c = mr) := by
  obtain ⟨hΛ, hlate, htr, ht, hm, him, hl, hw, hn72⟩ := id hX
  obtain ⟨hW, hla30, htw, hmw, himw, hlw, hrw⟩ := id hF
  have hP3 := hW.1.1
  have hW5 := hW.1.2.1
  have hy99 := hmw.1
  have hD9 := hr.Dl
  refine z_intro ([.ref 0, .int w]) (by decide) rfl (Nat.le_of_ble_eq_true rfl) ?_
  refine e_aload_n 1 dX7_kills_0 rfl rfl ?_
  refine e_iload_n 2 dX7_kills_1 rfl rfl ?_
  refine c_Vqi 5 (ci := 7) dX7_kills_2 (k_X7_isWord G hr hΛ hW) lm_X7_126 zi_yX7_isWord zs_yX7_isWord rfl (by first | rfl | assumption) (by first | decide | omega) rfl rfl rfl (Nat.le_of_ble_eq_true rfl) (Nat.le_of_ble_eq_true rfl) (Nat.le_of_ble_eq_true rfl) (by exact Nat.le_refl _) (by exact Nat.le_refl _) ?_
  refine e_if_eq 16 8 dX7_kills_5 (by decide) rfl (fun h5 => ?_) (fun h5 => ?_)
  · have h5 := zB_0 h5
    refine e_ldc 18 lc_X7_255 dX7_kills_16 rfl ?_
    refine e_ireturn .int dX7_kills_18 rfl rfl ?_
    exact ⟨_, rfl, (iteN (fun z => by first | exact h5 z.1 | exact h13 (by rw [ew] at z; rw [zK_nI (by omega)] at z; exact z.2) | exact h13 z.2)).symm, hX, fun _ _ => rfl, rfl, rfl⟩
  · have h5 := zB_1 h5
    obtain ⟨ew, hw9⟩ := h5.nat
    refine e_aload_n 9 dX7_kills_8 rfl rfl ?_
    refine e_iload_n 10 dX7_kills_9 rfl rfl ?_
    rw [show (Value.int w) = Value.int (nI (zK w)) from congrArg Value.int ew]
    refine c_Vqi 13 (ci := 7) dX7_kills_10 (k_X7_isCoined G hr hΛ hW hw9 hm.1 hy99) lm_X7_142 zi_yX7_isCoined zs_yX7_isCoined rfl (by first | rfl | assumption) (by first | decide | omega) rfl rfl rfl (Nat.le_of_ble_eq_true rfl) (Nat.le_of_ble_eq_true rfl) (Nat.le_of_ble_eq_true rfl) (by exact Nat.le_refl _) (by exact Nat.le_refl _) ?_
    refine e_if_ne 19 16 dX7_kills_13 (by decide) rfl (fun h13 => ?_) (fun h13 => ?_)
    · have h13 := zB_1 h13
      refine e_aload_n 20 dX7_kills_19 rfl rfl ?_
      refine e_iload_n 21 dX7_kills_20 rfl rfl ?_
      refine e_iconst 22 hic_0 dX7_kills_21 rfl ?_
      refine c_Vi 25 (ci := 7) dX7_kills_22 (k_X7_lastOver G hr hX hF hw9 (Nat.zero_le 9)) lm_X7_256 zi_yX7_lastOver zs_yX7_lastOver rfl (by first | rfl | assumption) (by first | decide | omega) rfl rfl rfl (Nat.le_of_ble_eq_true rfl) (Nat.le_of_ble_eq_true rfl) (Nat.le_of_ble_eq_true rfl) (by exact Nat.le_refl _) (by exact Nat.le_refl _) ?_
      rintro x1 u1 _ _ ⟨rfl, q1, rfl, rfl⟩
      have hX1 := hX.rec hW hD9.1 q1
      refine e_aload_n 26 dX7_kills_25 rfl rfl ?_
      refine e_iload_n 27 dX7_kills_26 rfl rfl ?_
      refine e_aload_n 28 dX7_kills_27 rfl rfl ?_
      refine e_getr 31 dX7_kills_28 lf_X7_62 rfl rfl rfl (by decide) hr.land ?_
      refine e_geti 34 dX7_kills_31 lf_X7_109 rfl rfl hr.dD.k0 hr.dD.l0 hX1.1.f3 ?_
      refine c_Vi 37 (ci := 7) dX7_kills_34 (k_X7_lastOver G hr hX1 hF hw9 hW.1.2.2.2.1) lm_X7_256 zi_yX7_lastOver zs_yX7_lastOver rfl (by first | rfl | assumption) (by first | decide | omega) rfl rfl rfl (Nat.le_of_ble_eq_true rfl) (Nat.le_of_ble_eq_true rfl) (Nat.le_of_ble_eq_true rfl) (by exact Nat.le_refl _) (by exact Nat.le_refl _) ?_
      rintro x2 u2 _ _ ⟨rfl, q2, rfl, rfl⟩
      have hX2 := hX1.rec hW hD9.1 q2
      refine e_isub 38 dX7_kills_37 rfl ?_
      refine e_ireturn .int dX7_kills_38 rfl rfl ?_
      exact ⟨_, rfl, (iteP ⟨h5, h13⟩).symm, hX2, fun q hq => (q2 q (by omega)).trans (q1 q (by omega)), rfl, rfl⟩
    · have h13 := zB_0 h13
      refine e_ldc 18 lc_X7_255 dX7_kills_16 rfl ?_
      refine e_ireturn .int dX7_kills_18 rfl rfl ?_
      exact ⟨_, rfl, (iteN (fun z => by first | exact h5 z.1 | exact h13 (by rw [ew] at z; rw [zK_nI (by omega)] at z; exact z.2) | exact h13 z.2)).symm, hX, fun _ _ => rfl, rfl, rfl⟩

set_option maxHeartbeats 4000000 in
set_option maxRecDepth 100000 in
theorem k_X7_part (G : zG) {D E : Nat} {Λ : zLd} {late : Nat} {tr : Int64} {t : zTx} {m : zMo} {im : Nat → Nat × zMo} {l : zLt} {r : zWr} {mi : zFi} {ml : zFl} {mr : zFr} (hr : zRf mr D E) (hX : zX mi ml D Λ late tr t m im l r) (hF : zWf Λ late t m im l r) {w : Int32} : zMet G 5 yX7_part cX7_part 2 (some .int) [.ref 0, .int w] 238 mi ml mr 238 (zPi fun x u b c => x = sPart Λ m w ∧ zX u b D Λ late tr t m im l r ∧ (∀ q, 224 ≤ q → u q = mi q) ∧ b = ml ∧ c = mr) := by
  obtain ⟨hΛ, hlate, htr, ht, hm, him, hl, hw, hn72⟩ := id hX
  obtain ⟨hW, hla30, htw, hmw, himw, hlw, hrw⟩ := id hF
  have hP3 := hW.1.1
  have hW5 := hW.1.2.1
  have hy99 := hmw.1
  have hD9 := hr.Dl
  refine z_intro ([.ref 0, .int w]) (by decide) rfl (Nat.le_of_ble_eq_true rfl) ?_
  refine e_aload_n 1 dX7_part_0 rfl rfl ?_
  refine e_iload_n 2 dX7_part_1 rfl rfl ?_
  refine c_Vqi 5 (ci := 7) dX7_part_2 (k_X7_isWord G hr hΛ hW) lm_X7_126 zi_yX7_isWord zs_yX7_isWord rfl (by first | rfl | assumption) (by first | decide | omega) rfl rfl rfl (Nat.le_of_ble_eq_true rfl) (Nat.le_of_ble_eq_true rfl) (Nat.le_of_ble_eq_true rfl) (by exact Nat.le_refl _) (by exact Nat.le_refl _) ?_
  refine e_if_ne 11 8 dX7_part_5 (by decide) rfl (fun h5 => ?_) (fun h5 => ?_)
  · have h5 := zB_1 h5
    obtain ⟨ew, hw9⟩ := h5.nat
    refine e_aload_n 12 dX7_part_11 rfl rfl ?_
    refine e_getr 15 dX7_part_12 lf_X7_55 rfl rfl rfl (by decide) hr.trial ?_
    refine e_aload_n 16 dX7_part_15 rfl rfl ?_
    refine e_getr 19 dX7_part_16 lf_X7_62 rfl rfl rfl (by decide) hr.land ?_
    refine e_aload_n 20 dX7_part_19 rfl rfl ?_
    refine e_getr 23 dX7_part_20 lf_X7_48 rfl rfl rfl (by decide) hr.noSongs ?_
    refine e_iload_n 24 dX7_part_23 rfl rfl ?_
    refine e_aload_n 25 dX7_part_24 rfl rfl ?_
    refine e_getr 28 dX7_part_25 lf_X7_62 rfl rfl rfl (by decide) hr.land ?_
    refine e_geti 31 dX7_part_28 lf_X7_109 rfl rfl hr.dD.k0 hr.dD.l0 (hΛ.f3) ?_
    refine e_aload_n 32 dX7_part_31 rfl rfl ?_
    refine e_getr 35 dX7_part_32 lf_X7_19 rfl rfl rfl (by decide) hr.now ?_
    refine e_geti 38 dX7_part_35 lf_X7_145 rfl rfl rfl (by decide) hm.1 ?_
    rw [show (Value.int w) = Value.int (nI (zK w)) from congrArg Value.int ew]
    refine c_Vv 41 (ci := 2) dX7_part_38 (k_X2_replay G hr.l77 hr.dD hr.s72 hW (zS0_W _ _) hw9 hW.1.2.2.2.1 hy99 (by omega) (by omega) hΛ (⟨hn72, fun i hi => absurd hi (Nat.not_lt_zero _)⟩ : zSongR mi 72 zS0)) lm_X7_259 zi_yX2_replay zs_yX2_replay rfl rfl (by decide) rfl rfl rfl (Nat.le_of_ble_eq_true rfl) (Nat.le_of_ble_eq_true rfl) (Nat.le_of_ble_eq_true rfl) (by exact Nat.le_refl _) (by exact Nat.le_refl _) ?_
    rintro a _ _ ⟨o1, r1, rfl, rfl⟩
    have hL9 := zLive_W (w := zK w) hW (zS0_W (Λ 0 0) (Λ 0 1)) hW.1.2.2.2.1 m.1
    have hX2 := hX.rec hW hD9.1 (zRec.l o1)
    have hm2 := hX2.2.2.2.2.1
    refine e_aload_n 42 dX7_part_41 rfl rfl ?_
    refine e_getr 45 dX7_part_42 lf_X7_19 rfl rfl rfl (by decide) hr.now ?_
    refine e_getr 48 dX7_part_45 lf_X7_159 rfl rfl rfl (by decide) hr.m3.r3 ?_
    refine e_iload_n 49 dX7_part_48 rfl rfl ?_
    refine e_aald 50 dX7_part_49 rfl hr.m3.k6 hr.m3.l6 rfl (hr.m3.n6 (by omega)) (hr.m3.lv (by omega)) ?_
    refine e_aload_n 51 dX7_part_50 rfl rfl ?_
    refine e_getr 54 dX7_part_51 lf_X7_19 rfl rfl rfl (by decide) hr.now ?_
    refine e_geti 57 dX7_part_54 lf_X7_145 rfl rfl rfl (by decide) hm2.1 ?_
    refine c_Vqi 60 (ci := 2) dX7_part_57 (k_X2_peak G (hr.m3.lf (w := zK w) (by omega)) (by omega) (fun y hy => (hm2.2.2.2 _ hw9).2.2.1 y hy) (zYm_le (hmw.2.2 _ hw9).1)) lm_X7_191 zi_yX2_peak zs_yX2_peak rfl (hr.m3.lf (w := zK w) (by omega)).k0 (hr.m3.lf (w := zK w) (by omega)).l0 rfl rfl rfl (Nat.le_of_ble_eq_true rfl) (Nat.le_of_ble_eq_true rfl) (Nat.le_of_ble_eq_true rfl) (by exact Nat.le_refl _) (by exact Nat.le_refl _) ?_
    refine e_aload_n 61 dX7_part_60 rfl rfl ?_
    refine e_getr 64 dX7_part_61 lf_X7_55 rfl rfl rfl (by decide) hr.trial ?_
    refine e_aload_n 65 dX7_part_64 rfl rfl ?_
    refine e_getr 68 dX7_part_65 lf_X7_19 rfl rfl rfl (by decide) hr.now ?_
    refine e_geti 71 dX7_part_68 lf_X7_145 rfl rfl rfl (by decide) hm2.1 ?_
    refine c_Vqi 74 (ci := 2) dX7_part_71 (k_X2_peak G hr.l77 (by omega) (fun y hy => r1.2.2.1 y hy) (zYm_le hL9)) lm_X7_191 zi_yX2_peak zs_yX2_peak rfl rfl (by decide) rfl rfl rfl (Nat.le_of_ble_eq_true rfl) (Nat.le_of_ble_eq_true rfl) (Nat.le_of_ble_eq_true rfl) (by exact Nat.le_refl _) (by exact Nat.le_refl _) ?_
    refine e_isub 75 dX7_part_74 rfl ?_
    refine e_ireturn .int dX7_part_75 rfl rfl ?_
    exact ⟨_, rfl, (iteP h5).symm, hX2, fun q hq => o1 q (by omega), rfl, rfl⟩
  · have h5 := zB_0 h5
    refine e_ldc 10 lc_X7_255 dX7_part_8 rfl ?_
    refine e_ireturn .int dX7_part_10 rfl rfl ?_
    exact ⟨_, rfl, (iteN h5).symm, hX, fun _ _ => rfl, rfl, rfl⟩

def zWadd (r : zWr) (y a w : Nat) : zWr := (r.1 + 1, zu r.2.1 r.1 y, zu r.2.2.1 r.1 a, zu r.2.2.2 r.1 w)
def zWk (r : zWr) (k : Nat) : Int32 := zWv (r.2.1 k) (r.2.2.1 k)
/-- what is gathered of a word's writings -/
def zWst (r : zWr) (w : Nat) (g : Int32 → Int32 → Int32) (k : Nat) (acc : Int32) : Int32 := if r.2.2.2 k = w then g acc (zWk r k) else acc
def zWco (r : zWr) (w : Nat) : Nat := zsum (fun k => if r.2.2.2 k = w then 1 else 0) 0 r.1
def zWsum (r : zWr) (w : Nat) : Int32 := zFo (zWst r w (fun a v => a + v)) r.1 0 (nI 0)
def zWmin (r : zWr) (w : Nat) : Int32 := zFo (zWst r w (fun a v => if v < a then v else a)) r.1 0 (nI 115)
def zWmax (r : zWr) (w : Nat) : Int32 := zFo (zWst r w (fun a v => if a < v then v else a)) r.1 0 (-69)
theorem zWco_le (r : zWr) (w : Nat) : zWco r w ≤ r.1 := by
  have := zsum_le (f := fun k => if r.2.2.2 k = w then 1 else 0) (M := 1) r.1 0 (fun k _ _ => by split <;> omega)
  unfold zWco
  omega
theorem zAbs_i2l (x : Int32) : zAbs x.toInt64 x.toInt.natAbs := by
  have h1 := x.toInt_lt
  have h2 := x.le_toInt
  have key : (lN x.toInt.natAbs).toInt = (x.toInt.natAbs : Int) := by
    unfold lN
    rw [Int64.toInt_ofNat']
    have e9 : (Int64.size : Int) = 18446744073709551616 := rfl
    apply Int.bmod_eq_of_le <;> omega
  rcases Int.le_total 0 x.toInt with h | h
  · left
    apply Int64.toInt_inj.mp
    rw [Int32.toInt_toInt64, key]
    omega
  · right
    apply Int64.toInt_inj.mp
    rw [Int32.toInt_toInt64, Int64.toInt_neg, key]
    symm
    have : Int.bmod (-(x.toInt.natAbs : Int)) (2 ^ 64) = -(x.toInt.natAbs : Int) := by apply Int.bmod_eq_of_le <;> omega
    rw [this]
    omega
theorem zAbs_lt (x : Int32) : x.toInt.natAbs < 2 ^ 62 := by
  have h1 := x.toInt_lt
  have h2 := x.le_toInt
  omega
set_option maxHeartbeats 4000000 in
set_option maxRecDepth 100000 in
theorem l_X6_sum (G : zG) (d : Nat) (Q : zQ) {D E : Nat} {Λ : zLd} {late : Nat} {tr : Int64} {t : zTx} {m : zMo} {im : Nat → Nat × zMo} {l : zLt} {r : zWr} {mi : zFi} {ml : zFl} {mr : zFr} (hr : zRf mr D E) (hX : zX mi ml D Λ late tr t m im l r) (hF : zWf Λ late t m im l r) {w : Nat} (hw9 : w < Λ 0 1) : ∀ (k k9 : Nat) (v : Int32), k9 + k = r.1 → Q (some (.int (zFo (zWst r w (fun a v => a + v)) k k9 v))) mi ml mr → zE G (zRm (d + 1) 238 238) (zQm G 238 238 Q) yX6_sum.cls yX6_sum.name cX6_sum 4 (some .int) 238 4 [.ref 69, .int (nI w), .int v, .int (nI k9)] [] 238 mi ml mr := by
  intro k
  induction k with
  | zero =>
    intro k9 v h hQ
    obtain ⟨hΛ, hlate, htr, ht, hm, him, hl, hw, hn72⟩ := id hX
    obtain ⟨hW, hla30, htw, hmw, himw, hlw, hrw⟩ := id hF
    have hP3 := hW.1.1
    have hW5 := hW.1.2.1
    have hy99 := hmw.1
    have hD9 := hr.Dl
    refine e_iload_n 5 dX6_sum_4 rfl rfl ?_
    refine e_aload_n 6 dX6_sum_5 rfl rfl ?_
    refine e_geti 9 dX6_sum_6 lf_X6_18 rfl rfl rfl (by decide) hw.1 ?_
    refine e_icmp_geN 37 12 dX6_sum_9 (by decide) rfl (by omega) (by omega) (fun h9 => ?_) (fun h9 => ?_)
    · refine e_iload_n 38 dX6_sum_37 rfl rfl ?_
      refine e_ireturn .int dX6_sum_38 rfl rfl ?_
      exact hQ
    · exact absurd h9 (by omega)
  | succ k ih =>
    intro k9 v h hQ
    obtain ⟨hΛ, hlate, htr, ht, hm, him, hl, hw, hn72⟩ := id hX
    obtain ⟨hW, hla30, htw, hmw, himw, hlw, hrw⟩ := id hF
    have hP3 := hW.1.1
    have hW5 := hW.1.2.1
    have hy99 := hmw.1
    have hD9 := hr.Dl
    refine e_iload_n 5 dX6_sum_4 rfl rfl ?_
    refine e_aload_n 6 dX6_sum_5 rfl rfl ?_
    refine e_geti 9 dX6_sum_6 lf_X6_18 rfl rfl rfl (by decide) hw.1 ?_
    refine e_icmp_geN 37 12 dX6_sum_9 (by decide) rfl (by omega) (by omega) (fun h9 => ?_) (fun h9 => ?_)
    · exact absurd h9 (by omega)
    · have hk9 := hrw.2 k9 h9
      refine e_aload_n 13 dX6_sum_12 rfl rfl ?_
      refine e_getr 16 dX6_sum_13 lf_X6_15 rfl rfl rfl (by decide) hr.wwords ?_
      refine e_iload_n 17 dX6_sum_16 rfl rfl ?_
      refine e_iald 18 dX6_sum_17 rfl rfl (by decide) rfl (by show k9 < 40; omega) (hw.2 k9 h9).2 ?_
      refine e_iload_n 19 dX6_sum_18 rfl rfl ?_
      refine e_icmp_neN 31 22 dX6_sum_19 (by decide) rfl (by omega) (by omega) (fun h19 => ?_) (fun h19 => ?_)
      · refine e_iinc 34 dX6_sum_31 rfl (by decide) rfl (z_inc hii_1) (zst1_3 rfl) ?_
        refine e_goto 4 dX6_sum_34 (by decide) ?_
        rw [zFo_s] at hQ
        unfold zWst at hQ
        first
          | (rw [if_neg (by omega)] at hQ; exact ih (k9 + 1) _ (by omega) hQ)
          | (rw [if_pos (by omega)] at hQ; exact ih (k9 + 1) _ (by omega) hQ)
      · refine e_iload_n 23 dX6_sum_22 rfl rfl ?_
        refine e_aload_n 24 dX6_sum_23 rfl rfl ?_
        refine e_getr 27 dX6_sum_24 lf_X6_9 rfl rfl rfl (by decide) hr.wyears ?_
        refine e_iload_n 28 dX6_sum_27 rfl rfl ?_
        refine e_iald 29 dX6_sum_28 rfl rfl (by decide) rfl (by show k9 < 40; omega) (hw.2 k9 h9).1 ?_
        refine e_iadd 30 dX6_sum_29 rfl ?_
        refine e_istore_n 31 dX6_sum_30 rfl (by decide) (zst1_2 rfl) ?_
        refine e_iinc 34 dX6_sum_31 rfl (by decide) rfl (z_inc hii_1) (zst1_3 rfl) ?_
        refine e_goto 4 dX6_sum_34 (by decide) ?_
        rw [zFo_s] at hQ
        unfold zWst at hQ
        first
          | (rw [if_neg (by omega)] at hQ; exact ih (k9 + 1) _ (by omega) hQ)
          | (rw [if_pos (by omega)] at hQ; exact ih (k9 + 1) _ (by omega) hQ)
set_option maxHeartbeats 4000000 in
set_option maxRecDepth 100000 in
theorem k_X6_sum (G : zG) {D E : Nat} {Λ : zLd} {late : Nat} {tr : Int64} {t : zTx} {m : zMo} {im : Nat → Nat × zMo} {l : zLt} {r : zWr} {mi : zFi} {ml : zFl} {mr : zFr} (hr : zRf mr D E) (hX : zX mi ml D Λ late tr t m im l r) (hF : zWf Λ late t m im l r) {w : Nat} (hw9 : w < Λ 0 1) : zMet G 1 yX6_sum cX6_sum 4 (some .int) [.ref 69, .int (nI w)] 238 mi ml mr 238 (zPq (some (.int (zWsum r w))) mi ml mr) := by
  refine z_intro ([.ref 69, .int (nI w), zx, zx]) (by decide) rfl (Nat.le_of_ble_eq_true rfl) ?_
  refine e_iconst 1 hic_0 dX6_sum_0 rfl ?_
  refine e_istore_n 2 dX6_sum_1 rfl (by decide) (zst1_2 rfl) ?_
  refine e_iconst 3 hic_0 dX6_sum_2 rfl ?_
  refine e_istore_n 4 dX6_sum_3 rfl (by decide) (zst1_3 rfl) ?_
  exact l_X6_sum G _ _ hr hX hF hw9 r.1 0 (nI 0) (by omega) ⟨rfl, rfl, rfl, rfl⟩

set_option maxHeartbeats 4000000 in
set_option maxRecDepth 100000 in
theorem l_X6_least (G : zG) (d : Nat) (Q : zQ) {D E : Nat} {Λ : zLd} {late : Nat} {tr : Int64} {t : zTx} {m : zMo} {im : Nat → Nat × zMo} {l : zLt} {r : zWr} {mi : zFi} {ml : zFl} {mr : zFr} (hr : zRf mr D E) (hX : zX mi ml D Λ late tr t m im l r) (hF : zWf Λ late t m im l r) {w : Nat} (hw9 : w < Λ 0 1) : ∀ (k k9 : Nat) (v : Int32), k9 + k = r.1 → Q (some (.int (zFo (zWst r w (fun a v => if v < a then v else a)) k k9 v))) mi ml mr → zE G (zRm (d + 1) 238 238) (zQm G 238 238 Q) yX6_least.cls yX6_least.name cX6_least 4 (some .int) 238 5 [.ref 69, .int (nI w), .int v, .int (nI k9)] [] 238 mi ml mr := by
  intro k
  induction k with
  | zero =>
    intro k9 v h hQ
    obtain ⟨hΛ, hlate, htr, ht, hm, him, hl, hw, hn72⟩ := id hX
    obtain ⟨hW, hla30, htw, hmw, himw, hlw, hrw⟩ := id hF
    have hP3 := hW.1.1
    have hW5 := hW.1.2.1
    have hy99 := hmw.1
    have hD9 := hr.Dl
    refine e_iload_n 6 dX6_least_5 rfl rfl ?_
    refine e_aload_n 7 dX6_least_6 rfl rfl ?_
    refine e_geti 10 dX6_least_7 lf_X6_18 rfl rfl rfl (by decide) hw.1 ?_
    refine e_icmp_geN 40 13 dX6_least_10 (by decide) rfl (by omega) (by omega) (fun h10 => ?_) (fun h10 => ?_)
    · refine e_iload_n 41 dX6_least_40 rfl rfl ?_
      refine e_ireturn .int dX6_least_41 rfl rfl ?_
      exact hQ
    · exact absurd h10 (by omega)
  | succ k ih =>
    intro k9 v h hQ
    obtain ⟨hΛ, hlate, htr, ht, hm, him, hl, hw, hn72⟩ := id hX
    obtain ⟨hW, hla30, htw, hmw, himw, hlw, hrw⟩ := id hF
    have hP3 := hW.1.1
    have hW5 := hW.1.2.1
    have hy99 := hmw.1
    have hD9 := hr.Dl
    refine e_iload_n 6 dX6_least_5 rfl rfl ?_
    refine e_aload_n 7 dX6_least_6 rfl rfl ?_
    refine e_geti 10 dX6_least_7 lf_X6_18 rfl rfl rfl (by decide) hw.1 ?_
    refine e_icmp_geN 40 13 dX6_least_10 (by decide) rfl (by omega) (by omega) (fun h10 => ?_) (fun h10 => ?_)
    · exact absurd h10 (by omega)
    · have hk9 := hrw.2 k9 h10
      refine e_aload_n 14 dX6_least_13 rfl rfl ?_
      refine e_getr 17 dX6_least_14 lf_X6_15 rfl rfl rfl (by decide) hr.wwords ?_
      refine e_iload_n 18 dX6_least_17 rfl rfl ?_
      refine e_iald 19 dX6_least_18 rfl rfl (by decide) rfl (by show k9 < 40; omega) (hw.2 k9 h10).2 ?_
      refine e_iload_n 20 dX6_least_19 rfl rfl ?_
      refine e_icmp_neN 34 23 dX6_least_20 (by decide) rfl (by omega) (by omega) (fun h20 => ?_) (fun h20 => ?_)
      · refine e_iinc 37 dX6_least_34 rfl (by decide) rfl (z_inc hii_1) (zst1_3 rfl) ?_
        refine e_goto 5 dX6_least_37 (by decide) ?_
        rw [zFo_s] at hQ
        unfold zWst at hQ
        first
          | (rw [if_neg (by omega)] at hQ; exact ih (k9 + 1) _ (by omega) hQ)
          | (rw [if_pos (by omega)] at hQ; exact ih (k9 + 1) _ (by omega) hQ)
      · refine e_iload_n 24 dX6_least_23 rfl rfl ?_
        refine e_aload_n 25 dX6_least_24 rfl rfl ?_
        refine e_getr 28 dX6_least_25 lf_X6_9 rfl rfl rfl (by decide) hr.wyears ?_
        refine e_iload_n 29 dX6_least_28 rfl rfl ?_
        refine e_iald 30 dX6_least_29 rfl rfl (by decide) rfl (by show k9 < 40; omega) (hw.2 k9 h10).1 ?_
        refine e_mmin 33 dX6_least_30 lmm_X6_22 rfl (Nat.le_of_ble_eq_true rfl) (Nat.le_of_ble_eq_true rfl) (Nat.le_refl _) (Nat.le_refl _) ?_
        refine e_istore_n 34 dX6_least_33 rfl (by decide) (zst1_2 rfl) ?_
        refine e_iinc 37 dX6_least_34 rfl (by decide) rfl (z_inc hii_1) (zst1_3 rfl) ?_
        refine e_goto 5 dX6_least_37 (by decide) ?_
        rw [zFo_s] at hQ
        unfold zWst at hQ
        first
          | (rw [if_neg (by omega)] at hQ; exact ih (k9 + 1) _ (by omega) hQ)
          | (rw [if_pos (by omega)] at hQ; exact ih (k9 + 1) _ (by omega) hQ)
set_option maxHeartbeats 4000000 in
set_option maxRecDepth 100000 in
theorem k_X6_least (G : zG) {D E : Nat} {Λ : zLd} {late : Nat} {tr : Int64} {t : zTx} {m : zMo} {im : Nat → Nat × zMo} {l : zLt} {r : zWr} {mi : zFi} {ml : zFl} {mr : zFr} (hr : zRf mr D E) (hX : zX mi ml D Λ late tr t m im l r) (hF : zWf Λ late t m im l r) {w : Nat} (hw9 : w < Λ 0 1) : zMet G 1 yX6_least cX6_least 4 (some .int) [.ref 69, .int (nI w)] 238 mi ml mr 238 (zPq (some (.int (zWmin r w))) mi ml mr) := by
  refine z_intro ([.ref 69, .int (nI w), zx, zx]) (by decide) rfl (Nat.le_of_ble_eq_true rfl) ?_
  refine e_bipush 2 hbi_115 dX6_least_0 rfl ?_
  refine e_istore_n 3 dX6_least_2 rfl (by decide) (zst1_2 rfl) ?_
  refine e_iconst 4 hic_0 dX6_least_3 rfl ?_
  refine e_istore_n 5 dX6_least_4 rfl (by decide) (zst1_3 rfl) ?_
  exact l_X6_least G _ _ hr hX hF hw9 r.1 0 (nI 115) (by omega) ⟨rfl, rfl, rfl, rfl⟩

set_option maxHeartbeats 4000000 in
set_option maxRecDepth 100000 in
theorem l_X6_greatest (G : zG) (d : Nat) (Q : zQ) {D E : Nat} {Λ : zLd} {late : Nat} {tr : Int64} {t : zTx} {m : zMo} {im : Nat → Nat × zMo} {l : zLt} {r : zWr} {mi : zFi} {ml : zFl} {mr : zFr} (hr : zRf mr D E) (hX : zX mi ml D Λ late tr t m im l r) (hF : zWf Λ late t m im l r) {w : Nat} (hw9 : w < Λ 0 1) : ∀ (k k9 : Nat) (v : Int32), k9 + k = r.1 → Q (some (.int (zFo (zWst r w (fun a v => if a < v then v else a)) k k9 v))) mi ml mr → zE G (zRm (d + 1) 238 238) (zQm G 238 238 Q) yX6_greatest.cls yX6_greatest.name cX6_greatest 4 (some .int) 238 5 [.ref 69, .int (nI w), .int v, .int (nI k9)] [] 238 mi ml mr := by
  intro k
  induction k with
  | zero =>
    intro k9 v h hQ
    obtain ⟨hΛ, hlate, htr, ht, hm, him, hl, hw, hn72⟩ := id hX
    obtain ⟨hW, hla30, htw, hmw, himw, hlw, hrw⟩ := id hF
    have hP3 := hW.1.1
    have hW5 := hW.1.2.1
    have hy99 := hmw.1
    have hD9 := hr.Dl
    refine e_iload_n 6 dX6_greatest_5 rfl rfl ?_
    refine e_aload_n 7 dX6_greatest_6 rfl rfl ?_
    refine e_geti 10 dX6_greatest_7 lf_X6_18 rfl rfl rfl (by decide) hw.1 ?_
    refine e_icmp_geN 40 13 dX6_greatest_10 (by decide) rfl (by omega) (by omega) (fun h10 => ?_) (fun h10 => ?_)
    · refine e_iload_n 41 dX6_greatest_40 rfl rfl ?_
      refine e_ireturn .int dX6_greatest_41 rfl rfl ?_
      exact hQ
    · exact absurd h10 (by omega)
  | succ k ih =>
    intro k9 v h hQ
    obtain ⟨hΛ, hlate, htr, ht, hm, him, hl, hw, hn72⟩ := id hX
    obtain ⟨hW, hla30, htw, hmw, himw, hlw, hrw⟩ := id hF
    have hP3 := hW.1.1
    have hW5 := hW.1.2.1
    have hy99 := hmw.1
    have hD9 := hr.Dl
    refine e_iload_n 6 dX6_greatest_5 rfl rfl ?_
    refine e_aload_n 7 dX6_greatest_6 rfl rfl ?_
    refine e_geti 10 dX6_greatest_7 lf_X6_18 rfl rfl rfl (by decide) hw.1 ?_
    refine e_icmp_geN 40 13 dX6_greatest_10 (by decide) rfl (by omega) (by omega) (fun h10 => ?_) (fun h10 => ?_)
    · exact absurd h10 (by omega)
    · have hk9 := hrw.2 k9 h10
      refine e_aload_n 14 dX6_greatest_13 rfl rfl ?_
      refine e_getr 17 dX6_greatest_14 lf_X6_15 rfl rfl rfl (by decide) hr.wwords ?_
      refine e_iload_n 18 dX6_greatest_17 rfl rfl ?_
      refine e_iald 19 dX6_greatest_18 rfl rfl (by decide) rfl (by show k9 < 40; omega) (hw.2 k9 h10).2 ?_
      refine e_iload_n 20 dX6_greatest_19 rfl rfl ?_
      refine e_icmp_neN 34 23 dX6_greatest_20 (by decide) rfl (by omega) (by omega) (fun h20 => ?_) (fun h20 => ?_)
      · refine e_iinc 37 dX6_greatest_34 rfl (by decide) rfl (z_inc hii_1) (zst1_3 rfl) ?_
        refine e_goto 5 dX6_greatest_37 (by decide) ?_
        rw [zFo_s] at hQ
        unfold zWst at hQ
        first
          | (rw [if_neg (by omega)] at hQ; exact ih (k9 + 1) _ (by omega) hQ)
          | (rw [if_pos (by omega)] at hQ; exact ih (k9 + 1) _ (by omega) hQ)
      · refine e_iload_n 24 dX6_greatest_23 rfl rfl ?_
        refine e_aload_n 25 dX6_greatest_24 rfl rfl ?_
        refine e_getr 28 dX6_greatest_25 lf_X6_9 rfl rfl rfl (by decide) hr.wyears ?_
        refine e_iload_n 29 dX6_greatest_28 rfl rfl ?_
        refine e_iald 30 dX6_greatest_29 rfl rfl (by decide) rfl (by show k9 < 40; omega) (hw.2 k9 h10).1 ?_
        refine e_mmax 33 dX6_greatest_30 lmm_X6_28 rfl (Nat.le_of_ble_eq_true rfl) (Nat.le_of_ble_eq_true rfl) (Nat.le_refl _) (Nat.le_refl _) ?_
        refine e_istore_n 34 dX6_greatest_33 rfl (by decide) (zst1_2 rfl) ?_
        refine e_iinc 37 dX6_greatest_34 rfl (by decide) rfl (z_inc hii_1) (zst1_3 rfl) ?_
        refine e_goto 5 dX6_greatest_37 (by decide) ?_
        rw [zFo_s] at hQ
        unfold zWst at hQ
        first
          | (rw [if_neg (by omega)] at hQ; exact ih (k9 + 1) _ (by omega) hQ)
          | (rw [if_pos (by omega)] at hQ; exact ih (k9 + 1) _ (by omega) hQ)
set_option maxHeartbeats 4000000 in
set_option maxRecDepth 100000 in
theorem k_X6_greatest (G : zG) {D E : Nat} {Λ : zLd} {late : Nat} {tr : Int64} {t : zTx} {m : zMo} {im : Nat → Nat × zMo} {l : zLt} {r : zWr} {mi : zFi} {ml : zFl} {mr : zFr} (hr : zRf mr D E) (hX : zX mi ml D Λ late tr t m im l r) (hF : zWf Λ late t m im l r) {w : Nat} (hw9 : w < Λ 0 1) : zMet G 1 yX6_greatest cX6_greatest 4 (some .int) [.ref 69, .int (nI w)] 238 mi ml mr 238 (zPq (some (.int (zWmax r w))) mi ml mr) := by
  refine z_intro ([.ref 69, .int (nI w), zx, zx]) (by decide) rfl (Nat.le_of_ble_eq_true rfl) ?_
  refine e_bipush 2 hbi_m69 dX6_greatest_0 rfl ?_
  refine e_istore_n 3 dX6_greatest_2 rfl (by decide) (zst1_2 rfl) ?_
  refine e_iconst 4 hic_0 dX6_greatest_3 rfl ?_
  refine e_istore_n 5 dX6_greatest_4 rfl (by decide) (zst1_3 rfl) ?_
  exact l_X6_greatest G _ _ hr hX hF hw9 r.1 0 (-69) (by omega) ⟨rfl, rfl, rfl, rfl⟩

set_option maxHeartbeats 4000000 in
set_option maxRecDepth 100000 in
theorem l_X6_countOf (G : zG) (d : Nat) (Q : zQ) {D E : Nat} {Λ : zLd} {late : Nat} {tr : Int64} {t : zTx} {m : zMo} {im : Nat → Nat × zMo} {l : zLt} {r : zWr} {mi : zFi} {ml : zFl} {mr : zFr} (hr : zRf mr D E) (hX : zX mi ml D Λ late tr t m im l r) (hF : zWf Λ late t m im l r) {w : Nat} (hw9 : w < Λ 0 1) : ∀ (k k9 v : Nat), k9 + k = r.1 → Q (some (.int (nI (v + zsum (fun k => if r.2.2.2 k = w then 1 else 0) k9 k)))) mi ml mr → zE G (zRm d 238 238) (zQm G 238 238 Q) yX6_countOf.cls yX6_countOf.name cX6_countOf 4 (some .int) 238 4 [.ref 69, .int (nI w), .int (nI v), .int (nI k9)] [] 238 mi ml mr := by
  intro k
  induction k with
  | zero =>
    intro k9 v h hQ
    obtain ⟨hΛ, hlate, htr, ht, hm, him, hl, hw, hn72⟩ := id hX
    obtain ⟨hW, hla30, htw, hmw, himw, hlw, hrw⟩ := id hF
    have hP3 := hW.1.1
    have hW5 := hW.1.2.1
    have hy99 := hmw.1
    have hD9 := hr.Dl
    refine e_iload_n 5 dX6_countOf_4 rfl rfl ?_
    refine e_aload_n 6 dX6_countOf_5 rfl rfl ?_
    refine e_geti 9 dX6_countOf_6 lf_X6_18 rfl rfl rfl (by decide) hw.1 ?_
    refine e_icmp_geN 31 12 dX6_countOf_9 (by decide) rfl (by omega) (by omega) (fun h9 => ?_) (fun h9 => ?_)
    · refine e_iload_n 32 dX6_countOf_31 rfl rfl ?_
      refine e_ireturn .int dX6_countOf_32 rfl rfl ?_
      exact hQ
    · exact absurd h9 (by omega)
  | succ k ih =>
    intro k9 v h hQ
    obtain ⟨hΛ, hlate, htr, ht, hm, him, hl, hw, hn72⟩ := id hX
    obtain ⟨hW, hla30, htw, hmw, himw, hlw, hrw⟩ := id hF
    have hP3 := hW.1.1
    have hW5 := hW.1.2.1
    have hy99 := hmw.1
    have hD9 := hr.Dl
    refine e_iload_n 5 dX6_countOf_4 rfl rfl ?_
    refine e_aload_n 6 dX6_countOf_5 rfl rfl ?_
    refine e_geti 9 dX6_countOf_6 lf_X6_18 rfl rfl rfl (by decide) hw.1 ?_
    refine e_icmp_geN 31 12 dX6_countOf_9 (by decide) rfl (by omega) (by omega) (fun h9 => ?_) (fun h9 => ?_)
    · exact absurd h9 (by omega)
    · have hk9 := hrw.2 k9 h9
      refine e_aload_n 13 dX6_countOf_12 rfl rfl ?_
      refine e_getr 16 dX6_countOf_13 lf_X6_15 rfl rfl rfl (by decide) hr.wwords ?_
      refine e_iload_n 17 dX6_countOf_16 rfl rfl ?_
      refine e_iald 18 dX6_countOf_17 rfl rfl (by decide) rfl (by show k9 < 40; omega) (hw.2 k9 h9).2 ?_
      refine e_iload_n 19 dX6_countOf_18 rfl rfl ?_
      refine e_icmp_neN 25 22 dX6_countOf_19 (by decide) rfl (by omega) (by omega) (fun h19 => ?_) (fun h19 => ?_)
      · refine e_iinc 28 dX6_countOf_25 rfl (by decide) rfl (z_inc hii_1) (zst1_3 rfl) ?_
        refine e_goto 4 dX6_countOf_28 (by decide) ?_
        rw [show zsum (fun k => if r.2.2.2 k = w then 1 else 0) k9 (k + 1) = (if r.2.2.2 k9 = w then 1 else 0) + zsum (fun k => if r.2.2.2 k = w then 1 else 0) (k9 + 1) k from rfl] at hQ
        first
          | (rw [if_neg (by omega), Nat.zero_add] at hQ; exact ih (k9 + 1) v (by omega) hQ)
          | (rw [if_pos (by omega), ← Nat.add_assoc] at hQ; exact ih (k9 + 1) (v + 1) (by omega) hQ)
      · refine e_iinc 25 dX6_countOf_22 rfl (by decide) rfl (z_inc hii_1) (zst1_2 rfl) ?_
        refine e_iinc 28 dX6_countOf_25 rfl (by decide) rfl (z_inc hii_1) (zst1_3 rfl) ?_
        refine e_goto 4 dX6_countOf_28 (by decide) ?_
        rw [show zsum (fun k => if r.2.2.2 k = w then 1 else 0) k9 (k + 1) = (if r.2.2.2 k9 = w then 1 else 0) + zsum (fun k => if r.2.2.2 k = w then 1 else 0) (k9 + 1) k from rfl] at hQ
        first
          | (rw [if_neg (by omega), Nat.zero_add] at hQ; exact ih (k9 + 1) v (by omega) hQ)
          | (rw [if_pos (by omega), ← Nat.add_assoc] at hQ; exact ih (k9 + 1) (v + 1) (by omega) hQ)
set_option maxHeartbeats 4000000 in
set_option maxRecDepth 100000 in
theorem k_X6_countOf (G : zG) {D E : Nat} {Λ : zLd} {late : Nat} {tr : Int64} {t : zTx} {m : zMo} {im : Nat → Nat × zMo} {l : zLt} {r : zWr} {mi : zFi} {ml : zFl} {mr : zFr} (hr : zRf mr D E) (hX : zX mi ml D Λ late tr t m im l r) (hF : zWf Λ late t m im l r) {w : Nat} (hw9 : w < Λ 0 1) : zMet G 0 yX6_countOf cX6_countOf 4 (some .int) [.ref 69, .int (nI w)] 238 mi ml mr 238 (zPq (some (.int (nI (zWco r w)))) mi ml mr) := by
  refine z_intro ([.ref 69, .int (nI w), zx, zx]) (by decide) rfl (Nat.le_of_ble_eq_true rfl) ?_
  refine e_iconst 1 hic_0 dX6_countOf_0 rfl ?_
  refine e_istore_n 2 dX6_countOf_1 rfl (by decide) (zst1_2 rfl) ?_
  refine e_iconst 3 hic_0 dX6_countOf_2 rfl ?_
  refine e_istore_n 4 dX6_countOf_3 rfl (by decide) (zst1_3 rfl) ?_
  exact l_X6_countOf G _ _ hr hX hF hw9 r.1 0 0 (by omega) ⟨by rw [Nat.zero_add]; rfl, rfl, rfl, rfl⟩

set_option maxHeartbeats 4000000 in
set_option maxRecDepth 100000 in
theorem k_X6_add (G : zG) {D E : Nat} {Λ : zLd} {late : Nat} {tr : Int64} {t : zTx} {m : zMo} {im : Nat → Nat × zMo} {l : zLt} {r : zWr} {mi : zFi} {ml : zFl} {mr : zFr} (hr : zRf mr D E) (hX : zX mi ml D Λ late tr t m im l r) (hF : zWf Λ late t m im l r) {y a w : Nat} (h40 : r.1 < 40) : zMet G 0 yX6_add cX6_add 3 none [.ref 69, .int (zWv y a), .int (nI w)] 238 mi ml mr 238 (zPv fun u b c => (∀ q, q < 69 ∨ 72 ≤ q → u q = mi q) ∧ zXw u (zWadd r y a w) ∧ b = ml ∧ c = mr) := by
  obtain ⟨hΛ, hlate, htr, ht, hm, him, hl, hw, hn72⟩ := id hX
  obtain ⟨hW, hla30, htw, hmw, himw, hlw, hrw⟩ := id hF
  have hP3 := hW.1.1
  have hW5 := hW.1.2.1
  have hy99 := hmw.1
  have hD9 := hr.Dl
  refine z_intro ([.ref 69, .int (zWv y a), .int (nI w)]) (by decide) rfl (Nat.le_of_ble_eq_true rfl) ?_
  refine e_aload_n 1 dX6_add_0 rfl rfl ?_
  refine e_getr 4 dX6_add_1 lf_X6_9 rfl rfl rfl (by decide) hr.wyears ?_
  refine e_aload_n 5 dX6_add_4 rfl rfl ?_
  refine e_geti 8 dX6_add_5 lf_X6_18 rfl rfl rfl (by decide) hw.1 ?_
  refine e_iload_n 9 dX6_add_8 rfl rfl ?_
  refine e_iast 10 dX6_add_9 rfl rfl (by decide) rfl (by show r.1 < 40; omega) ?_
  refine e_aload_n 11 dX6_add_10 rfl rfl ?_
  refine e_getr 14 dX6_add_11 lf_X6_15 rfl rfl rfl (by decide) hr.wwords ?_
  refine e_aload_n 15 dX6_add_14 rfl rfl ?_
  refine e_geti (v := nI r.1) 18 dX6_add_15 lf_X6_18 rfl rfl rfl (by decide) (by rw [zp_r _ _ _ (by decide)]; exact hw.1) ?_
  refine e_iload_n 19 dX6_add_18 rfl rfl ?_
  refine e_iast 20 dX6_add_19 rfl rfl (by decide) rfl (by show r.1 < 40; omega) ?_
  refine e_aload_n 21 dX6_add_20 rfl rfl ?_
  refine e_dup 22 dX6_add_21 rfl rfl ?_
  refine e_geti (v := nI r.1) 25 dX6_add_22 lf_X6_18 rfl rfl rfl (by decide) (by rw [zp_r _ _ _ (by decide), zp_r _ _ _ (by decide)]; exact hw.1) ?_
  refine e_iconst 26 hic_1 dX6_add_25 rfl ?_
  first | refine e_iaddN 27 dX6_add_26 rfl ?_ | refine e_iadd 27 dX6_add_26 rfl ?_
  refine e_puti 30 dX6_add_27 lf_X6_18 rfl rfl rfl rfl rfl (by decide) ?_
  refine e_vreturn dX6_add_30 rfl ?_
  refine ⟨rfl, fun q hq => by rw [zp_r _ _ _ (by omega), zp_r _ _ _ (by omega), zp_r _ _ _ (by omega)], ⟨zp_s _ _ _ _, fun k hk => ?_⟩, rfl, rfl⟩
  have hk9 : k < r.1 + 1 := hk
  refine ⟨?_, ?_⟩
  · rw [zp_r _ _ _ (by decide : (70 : Nat) ≠ 69), zp_r _ _ _ (by decide : (70 : Nat) ≠ 71)]
    show _ = zWv (zu r.2.1 r.1 y k) (zu r.2.2.1 r.1 a k)
    by_cases e : k = r.1
    · subst e; rw [zu_s, zu_s, zp_s]
    · rw [zu_n _ _ e, zu_n _ _ e, zp_k _ _ e]; exact (hw.2 k (by omega)).1
  · rw [zp_r _ _ _ (by decide : (71 : Nat) ≠ 69)]
    show _ = nI (zu r.2.2.2 r.1 w k)
    by_cases e : k = r.1
    · subst e; rw [zu_s, zp_s]
    · rw [zu_n _ _ e, zp_k _ _ e, zp_r _ _ _ (by decide)]; exact (hw.2 k (by omega)).2

def sWritOk (Λ : zLd) (y a w : Int32) : Prop := vR y 0 99 ∧ vR a 10 69 ∧ vN w (Λ 0 1)
def sWritOk_dec (Λ : zLd) (y a w : Int32) : Decidable (sWritOk Λ y a w) := by unfold sWritOk; exact @instDecidableAnd _ _ (vR_dec _ _ _) (@instDecidableAnd _ _ (vR_dec _ _ _) (vN_dec _ _))
def sWriting (Λ : zLd) (r : zWr) (y a w : Int32) : Int32 := @ite _ (sWritOk Λ y a w) (sWritOk_dec Λ y a w) (if r.1 < 40 then nI (r.1 + 1) else -3) (-1)
def sWritR (Λ : zLd) (r : zWr) (y a w : Int32) : zWr := @ite _ (sWritOk Λ y a w) (sWritOk_dec Λ y a w) (if r.1 < 40 then zWadd r (zK y) (zK a) (zK w) else r) r
theorem sWritR_F {Λ : zLd} {late : Nat} {t : zTx} {m : zMo} {im : Nat → Nat × zMo} {l : zLt} {r : zWr} (hF : zWf Λ late t m im l r) {y a w : Int32} : zWf Λ late t m im l (sWritR Λ r y a w) := by
  obtain ⟨hW, hla30, htw, hmw, himw, hlw, hrw⟩ := hF
  refine ⟨hW, hla30, htw, hmw, himw, hlw, ?_⟩
  unfold sWritR
  by_cases q : sWritOk Λ y a w
  · rw [iteP q]
    split
    · rename_i h
      refine ⟨by show r.1 + 1 ≤ 40; omega, fun k hk => ?_⟩
      have hk9 : k < r.1 + 1 := hk
      show zu r.2.1 r.1 _ k ≤ 99 ∧ 10 ≤ zu r.2.2.1 r.1 _ k ∧ zu r.2.2.1 r.1 _ k ≤ 69 ∧ zu r.2.2.2 r.1 _ k < Λ 0 1
      by_cases e : k = r.1
      · subst e
        rw [zu_s, zu_s, zu_s]
        exact ⟨q.1.nat.2.2, q.2.1.nat.2.1, q.2.1.nat.2.2, q.2.2.nat.2⟩
      · rw [zu_n _ _ e, zu_n _ _ e, zu_n _ _ e]
        exact hrw.2 k (by omega)
    · exact hrw
  · rw [iteN q]; exact hrw
set_option maxHeartbeats 4000000 in
set_option maxRecDepth 100000 in
theorem k_X7_writing (G : zG) {D E : Nat} {Λ : zLd} {late : Nat} {tr : Int64} {t : zTx} {m : zMo} {im : Nat → Nat × zMo} {l : zLt} {r : zWr} {mi : zFi} {ml : zFl} {mr : zFr} (hr : zRf mr D E) (hX : zX mi ml D Λ late tr t m im l r) (hF : zWf Λ late t m im l r) {y a w : Int32} : zMet G 2 yX7_writing cX7_writing 4 (some .int) [.ref 0, .int y, .int a, .int w] 238 mi ml mr 238 (zPi fun x u b c => x = sWriting Λ r y a w ∧ zX u b D Λ late tr t m im l (sWritR Λ r y a w) ∧ (∀ q, 224 ≤ q → u q = mi q) ∧ b = ml ∧ c = mr) := by
  obtain ⟨hΛ, hlate, htr, ht, hm, him, hl, hw, hn72⟩ := id hX
  obtain ⟨hW, hla30, htw, hmw, himw, hlw, hrw⟩ := id hF
  have hP3 := hW.1.1
  have hW5 := hW.1.2.1
  have hy99 := hmw.1
  have hD9 := hr.Dl
  refine z_intro ([.ref 0, .int y, .int a, .int w]) (by decide) rfl (Nat.le_of_ble_eq_true rfl) ?_
  refine e_iload_n 1 dX7_writing_0 rfl rfl ?_
  refine e_iconst 2 hic_0 dX7_writing_1 rfl ?_
  refine e_bipush 4 hbi_99 dX7_writing_2 rfl ?_
  refine c_Sqi 7 dX7_writing_4 (k_X7_btw G (by decide) (by decide)) lm_X7_80 zt_yX7_between rfl rfl rfl (Nat.le_of_ble_eq_true rfl) (Nat.le_of_ble_eq_true rfl) (Nat.le_of_ble_eq_true rfl) (by exact Nat.le_refl _) (by exact Nat.le_refl _) ?_
  refine e_if_eq 25 10 dX7_writing_7 (by decide) rfl (fun h7 => ?_) (fun h7 => ?_)
  · have h7 := zB_0 h7
    refine e_iconst 26 hic_m1 dX7_writing_25 rfl ?_
    refine e_ireturn .int dX7_writing_26 rfl rfl ?_
    have hno : ¬ sWritOk Λ y a w := fun q => by first | exact h7 q.1 | exact h14 q.2.1 | exact h22 q.2.2
    have e1 : sWriting Λ r y a w = -1 := iteN hno
    have e2 : sWritR Λ r y a w = r := iteN hno
    rw [e1, e2]
    exact ⟨_, rfl, rfl, hX, fun _ _ => rfl, rfl, rfl⟩
  · have h7 := zB_1 h7
    obtain ⟨ey, hy9⟩ := h7.nat
    refine e_iload_n 11 dX7_writing_10 rfl rfl ?_
    refine c_Sqi 14 dX7_writing_11 (k_X7_isAge G) lm_X7_156 zt_yX7_isAge rfl rfl rfl (Nat.le_of_ble_eq_true rfl) (Nat.le_of_ble_eq_true rfl) (Nat.le_of_ble_eq_true rfl) (by exact Nat.le_refl _) (by exact Nat.le_refl _) ?_
    refine e_if_eq 25 17 dX7_writing_14 (by decide) rfl (fun h14 => ?_) (fun h14 => ?_)
    · have h14 := zB_0 h14
      refine e_iconst 26 hic_m1 dX7_writing_25 rfl ?_
      refine e_ireturn .int dX7_writing_26 rfl rfl ?_
      have hno : ¬ sWritOk Λ y a w := fun q => by first | exact h7 q.1 | exact h14 q.2.1 | exact h22 q.2.2
      have e1 : sWriting Λ r y a w = -1 := iteN hno
      have e2 : sWritR Λ r y a w = r := iteN hno
      rw [e1, e2]
      exact ⟨_, rfl, rfl, hX, fun _ _ => rfl, rfl, rfl⟩
    · have h14 := zB_1 h14
      obtain ⟨ea, ha9⟩ := h14.nat
      refine e_aload_n 18 dX7_writing_17 rfl rfl ?_
      refine e_iload_n 19 dX7_writing_18 rfl rfl ?_
      refine c_Vqi 22 (ci := 7) dX7_writing_19 (k_X7_isWord G hr hΛ hW) lm_X7_126 zi_yX7_isWord zs_yX7_isWord rfl (by first | rfl | assumption) (by first | decide | omega) rfl rfl rfl (Nat.le_of_ble_eq_true rfl) (Nat.le_of_ble_eq_true rfl) (Nat.le_of_ble_eq_true rfl) (by exact Nat.le_refl _) (by exact Nat.le_refl _) ?_
      refine e_if_ne 27 25 dX7_writing_22 (by decide) rfl (fun h22 => ?_) (fun h22 => ?_)
      · have h22 := zB_1 h22
        obtain ⟨ew, hw9⟩ := h22.nat
        have e1 : sWriting Λ r y a w = (if r.1 < 40 then nI (r.1 + 1) else -3) := iteP ⟨h7, h14, h22⟩
        have e2 : sWritR Λ r y a w = (if r.1 < 40 then zWadd r (zK y) (zK a) (zK w) else r) := iteP ⟨h7, h14, h22⟩
        rw [e1, e2]
        clear e1 e2 h7 h14 h22
        generalize zK y = y9 at ey hy9 ⊢
        generalize zK a = a9 at ea ha9 ⊢
        generalize zK w = w9 at ew hw9 ⊢
        subst ey ea ew
        have hr40 := hrw.1
        refine e_aload_n 28 dX7_writing_27 rfl rfl ?_
        refine e_getr 31 dX7_writing_28 lf_X7_41 rfl rfl rfl (by decide) hr.writings ?_
        refine e_geti 34 dX7_writing_31 lf_X7_95 rfl rfl rfl (by decide) hw.1 ?_
        refine e_bipush 36 hbi_40 dX7_writing_34 rfl ?_
        refine e_icmp_ltN 42 39 dX7_writing_36 (by decide) rfl (by omega) (by omega) (fun h36 => ?_) (fun h36 => ?_)
        · rw [if_pos h36, if_pos h36]
          refine e_aload_n 43 dX7_writing_42 rfl rfl ?_
          refine e_getr 46 dX7_writing_43 lf_X7_41 rfl rfl rfl (by decide) hr.writings ?_
          refine e_iload_n 47 dX7_writing_46 rfl rfl ?_
          refine e_iload_n 48 dX7_writing_47 rfl rfl ?_
          refine e_isub 49 dX7_writing_48 rfl ?_
          refine e_bipush 51 hbi_16 dX7_writing_49 rfl ?_
          refine e_iadd 52 dX7_writing_51 rfl ?_
          refine e_iload_n 53 dX7_writing_52 rfl rfl ?_
          refine c_Vv 56 (ci := 6) dX7_writing_53 (k_X6_add G hr hX hF h36) lm_X7_263 zi_yX6_add zs_yX6_add rfl rfl (by decide) rfl rfl rfl (Nat.le_of_ble_eq_true rfl) (Nat.le_of_ble_eq_true rfl) (Nat.le_of_ble_eq_true rfl) (by exact Nat.le_refl _) (by exact Nat.le_refl _) ?_
          rintro u _ _ ⟨o1, w1, rfl, rfl⟩
          refine e_aload_n 57 dX7_writing_56 rfl rfl ?_
          refine e_getr 60 dX7_writing_57 lf_X7_41 rfl rfl rfl (by decide) hr.writings ?_
          refine e_geti (v := nI (r.1 + 1)) 63 dX7_writing_60 lf_X7_95 rfl rfl rfl (by decide) w1.1 ?_
          refine e_ireturn .int dX7_writing_63 rfl rfl ?_
          refine ⟨_, rfl, rfl, ⟨hΛ.congr (fun j hj => o1 _ (by omega)), by rw [o1 0 (by decide)]; exact hlate, htr, ht.c (o1 1 (by decide)) (o1 2 (by decide)), hm.c hW (fun q g1 g2 => o1 q (by omega)), him.c hW (o1 66 (by decide)) (fun q g1 g2 => o1 q (by omega)), hl.c (o1 67 (by decide)), w1, by rw [o1 72 (by decide)]; exact hn72⟩, fun q hq => o1 q (by omega), rfl, rfl⟩
        · rw [if_neg (by omega), if_neg (by omega)]
          refine e_bipush 41 hbi_m3 dX7_writing_39 rfl ?_
          refine e_ireturn .int dX7_writing_41 rfl rfl ?_
          exact ⟨_, rfl, rfl, hX, fun _ _ => rfl, rfl, rfl⟩
      · have h22 := zB_0 h22
        refine e_iconst 26 hic_m1 dX7_writing_25 rfl ?_
        refine e_ireturn .int dX7_writing_26 rfl rfl ?_
        have hno : ¬ sWritOk Λ y a w := fun q => by first | exact h7 q.1 | exact h14 q.2.1 | exact h22 q.2.2
        have e1 : sWriting Λ r y a w = -1 := iteN hno
        have e2 : sWritR Λ r y a w = r := iteN hno
        rw [e1, e2]
        exact ⟨_, rfl, rfl, hX, fun _ _ => rfl, rfl, rfl⟩

def sSpanOk (Λ : zLd) (w what : Int32) : Prop := vN w (Λ 0 1) ∧ vR what 0 3
def sSpanOk_dec (Λ : zLd) (w what : Int32) : Decidable (sSpanOk Λ w what) := by unfold sSpanOk; exact @instDecidableAnd _ _ (vN_dec _ _) (vR_dec _ _ _)
def sSpanV (r : zWr) (w k : Nat) : Int32 := if k = 0 then zWmin r w else if k = 1 then zWmax r w else (sFrac (zWsum r w).toInt64 (zWsum r w).toInt.natAbs (zWco r w) (k - 2)).toInt32
def sSpan (Λ : zLd) (r : zWr) (w what : Int32) : Int32 := @ite _ (sSpanOk Λ w what) (sSpanOk_dec Λ w what) (if zWco r (zK w) = 0 then -1000000 else sSpanV r (zK w) (zK what)) (-1000000)
set_option maxHeartbeats 4000000 in
set_option maxRecDepth 100000 in
theorem k_X7_span_0 (G : zG) {D E : Nat} {Λ : zLd} {late : Nat} {tr : Int64} {t : zTx} {m : zMo} {im : Nat → Nat × zMo} {l : zLt} {r : zWr} {mi : zFi} {ml : zFl} {mr : zFr} (hr : zRf mr D E) (hX : zX mi ml D Λ late tr t m im l r) (hF : zWf Λ late t m im l r) {w : Int32} : zMet G 2 yX7_span cX7_span 4 (some .int) [.ref 0, .int w, .int (nI 0)] 238 mi ml mr 238 (zPq (some (.int (sSpan Λ r w (nI 0)))) mi ml mr) := by
  obtain ⟨hΛ, hlate, htr, ht, hm, him, hl, hw, hn72⟩ := id hX
  obtain ⟨hW, hla30, htw, hmw, himw, hlw, hrw⟩ := id hF
  have hP3 := hW.1.1
  have hW5 := hW.1.2.1
  have hy99 := hmw.1
  have hD9 := hr.Dl
  refine z_intro ([.ref 0, .int w, .int (nI 0), zx]) (by decide) rfl (Nat.le_of_ble_eq_true rfl) ?_
  refine e_aload_n 1 dX7_span_0 rfl rfl ?_
  refine e_iload_n 2 dX7_span_1 rfl rfl ?_
  refine c_Vqi 5 (ci := 7) dX7_span_2 (k_X7_isWord G hr hΛ hW) lm_X7_126 zi_yX7_isWord zs_yX7_isWord rfl (by first | rfl | assumption) (by first | decide | omega) rfl rfl rfl (Nat.le_of_ble_eq_true rfl) (Nat.le_of_ble_eq_true rfl) (Nat.le_of_ble_eq_true rfl) (by exact Nat.le_refl _) (by exact Nat.le_refl _) ?_
  refine e_if_eq 17 8 dX7_span_5 (by decide) rfl (fun h5 => ?_) (fun h5 => ?_)
  · have h5 := zB_0 h5
    refine e_ldc 19 lc_X7_255 dX7_span_17 rfl ?_
    refine e_ireturn .int dX7_span_19 rfl rfl ?_
    exact ⟨someI (iteN (fun z => h5 z.1)), rfl, rfl, rfl⟩
  · have h5 := zB_1 h5
    obtain ⟨ew, hw9⟩ := h5.nat
    refine e_iload_n 9 dX7_span_8 rfl rfl ?_
    refine e_iconst 10 hic_0 dX7_span_9 rfl ?_
    refine e_iconst 11 hic_3 dX7_span_10 rfl ?_
    refine c_Sqi 14 dX7_span_11 (k_X7_btw G (by decide) (by decide)) lm_X7_80 zt_yX7_between rfl rfl rfl (Nat.le_of_ble_eq_true rfl) (Nat.le_of_ble_eq_true rfl) (Nat.le_of_ble_eq_true rfl) (by exact Nat.le_refl _) (by exact Nat.le_refl _) ?_
    refine e_if_ne 20 17 dX7_span_14 (by decide) rfl (fun h14 => ?_) (fun h14 => ?_)
    · have h14 := zB_1 h14
      have hco := zWco_le r (zK w)
      have hr40 := hrw.1
      refine e_aload_n 21 dX7_span_20 rfl rfl ?_
      refine e_getr 24 dX7_span_21 lf_X7_41 rfl rfl rfl (by decide) hr.writings ?_
      refine e_iload_n 25 dX7_span_24 rfl rfl ?_
      rw [show (Value.int w) = Value.int (nI (zK w)) from congrArg Value.int ew]
      refine c_Vqi 28 (ci := 6) dX7_span_25 (k_X6_countOf G hr hX hF hw9) lm_X7_265 zi_yX6_countOf zs_yX6_countOf rfl rfl (by decide) rfl rfl rfl (Nat.le_of_ble_eq_true rfl) (Nat.le_of_ble_eq_true rfl) (Nat.le_of_ble_eq_true rfl) (by exact Nat.le_refl _) (by exact Nat.le_refl _) ?_
      refine e_istore_n 29 dX7_span_28 rfl (by decide) (zst1_3 rfl) ?_
      refine e_iload_n 30 dX7_span_29 rfl rfl ?_
      refine e_if_neN 36 33 dX7_span_30 (by decide) rfl (by omega) (fun h30 => ?_) (fun h30 => ?_)
      · refine e_iload_n 37 dX7_span_36 rfl rfl ?_
        refine e_lookup 64 (off := 27) dX7_span_37 (by decide) (by decide) (by decide) ?_
        refine e_aload_n 65 dX7_span_64 rfl rfl ?_
        refine e_getr 68 dX7_span_65 lf_X7_41 rfl rfl rfl (by decide) hr.writings ?_
        refine e_iload_n 69 dX7_span_68 rfl rfl ?_
        refine c_Vqi 72 (ci := 6) dX7_span_69 (k_X6_least G hr hX hF hw9) lm_X7_268 zi_yX6_least zs_yX6_least rfl rfl (by decide) rfl rfl rfl (Nat.le_of_ble_eq_true rfl) (Nat.le_of_ble_eq_true rfl) (Nat.le_of_ble_eq_true rfl) (by exact Nat.le_refl _) (by exact Nat.le_refl _) ?_
        refine e_ireturn .int dX7_span_72 rfl rfl ?_
        exact ⟨someI ((iteP (show sSpanOk Λ w (nI 0) from ⟨h5, h14⟩)).trans ((if_neg (by omega)).trans rfl)), rfl, rfl, rfl⟩
      · refine e_ldc 35 lc_X7_255 dX7_span_33 rfl ?_
        refine e_ireturn .int dX7_span_35 rfl rfl ?_
        exact ⟨someI ((iteP (show sSpanOk Λ w (nI 0) from ⟨h5, h14⟩)).trans (if_pos (by omega))), rfl, rfl, rfl⟩
    · exact absurd ((vR_nI (by decide)).mpr ⟨by decide, by decide⟩) (zB_0 h14)

set_option maxHeartbeats 4000000 in
set_option maxRecDepth 100000 in
theorem k_X7_span_1 (G : zG) {D E : Nat} {Λ : zLd} {late : Nat} {tr : Int64} {t : zTx} {m : zMo} {im : Nat → Nat × zMo} {l : zLt} {r : zWr} {mi : zFi} {ml : zFl} {mr : zFr} (hr : zRf mr D E) (hX : zX mi ml D Λ late tr t m im l r) (hF : zWf Λ late t m im l r) {w : Int32} : zMet G 2 yX7_span cX7_span 4 (some .int) [.ref 0, .int w, .int (nI 1)] 238 mi ml mr 238 (zPq (some (.int (sSpan Λ r w (nI 1)))) mi ml mr) := by
  obtain ⟨hΛ, hlate, htr, ht, hm, him, hl, hw, hn72⟩ := id hX
  obtain ⟨hW, hla30, htw, hmw, himw, hlw, hrw⟩ := id hF
  have hP3 := hW.1.1
  have hW5 := hW.1.2.1
  have hy99 := hmw.1
  have hD9 := hr.Dl
  refine z_intro ([.ref 0, .int w, .int (nI 1), zx]) (by decide) rfl (Nat.le_of_ble_eq_true rfl) ?_
  refine e_aload_n 1 dX7_span_0 rfl rfl ?_
  refine e_iload_n 2 dX7_span_1 rfl rfl ?_
  refine c_Vqi 5 (ci := 7) dX7_span_2 (k_X7_isWord G hr hΛ hW) lm_X7_126 zi_yX7_isWord zs_yX7_isWord rfl (by first | rfl | assumption) (by first | decide | omega) rfl rfl rfl (Nat.le_of_ble_eq_true rfl) (Nat.le_of_ble_eq_true rfl) (Nat.le_of_ble_eq_true rfl) (by exact Nat.le_refl _) (by exact Nat.le_refl _) ?_
  refine e_if_eq 17 8 dX7_span_5 (by decide) rfl (fun h5 => ?_) (fun h5 => ?_)
  · have h5 := zB_0 h5
    refine e_ldc 19 lc_X7_255 dX7_span_17 rfl ?_
    refine e_ireturn .int dX7_span_19 rfl rfl ?_
    exact ⟨someI (iteN (fun z => h5 z.1)), rfl, rfl, rfl⟩
  · have h5 := zB_1 h5
    obtain ⟨ew, hw9⟩ := h5.nat
    refine e_iload_n 9 dX7_span_8 rfl rfl ?_
    refine e_iconst 10 hic_0 dX7_span_9 rfl ?_
    refine e_iconst 11 hic_3 dX7_span_10 rfl ?_
    refine c_Sqi 14 dX7_span_11 (k_X7_btw G (by decide) (by decide)) lm_X7_80 zt_yX7_between rfl rfl rfl (Nat.le_of_ble_eq_true rfl) (Nat.le_of_ble_eq_true rfl) (Nat.le_of_ble_eq_true rfl) (by exact Nat.le_refl _) (by exact Nat.le_refl _) ?_
    refine e_if_ne 20 17 dX7_span_14 (by decide) rfl (fun h14 => ?_) (fun h14 => ?_)
    · have h14 := zB_1 h14
      have hco := zWco_le r (zK w)
      have hr40 := hrw.1
      refine e_aload_n 21 dX7_span_20 rfl rfl ?_
      refine e_getr 24 dX7_span_21 lf_X7_41 rfl rfl rfl (by decide) hr.writings ?_
      refine e_iload_n 25 dX7_span_24 rfl rfl ?_
      rw [show (Value.int w) = Value.int (nI (zK w)) from congrArg Value.int ew]
      refine c_Vqi 28 (ci := 6) dX7_span_25 (k_X6_countOf G hr hX hF hw9) lm_X7_265 zi_yX6_countOf zs_yX6_countOf rfl rfl (by decide) rfl rfl rfl (Nat.le_of_ble_eq_true rfl) (Nat.le_of_ble_eq_true rfl) (Nat.le_of_ble_eq_true rfl) (by exact Nat.le_refl _) (by exact Nat.le_refl _) ?_
      refine e_istore_n 29 dX7_span_28 rfl (by decide) (zst1_3 rfl) ?_
      refine e_iload_n 30 dX7_span_29 rfl rfl ?_
      refine e_if_neN 36 33 dX7_span_30 (by decide) rfl (by omega) (fun h30 => ?_) (fun h30 => ?_)
      · refine e_iload_n 37 dX7_span_36 rfl rfl ?_
        refine e_lookup 73 (off := 36) dX7_span_37 (by decide) (by decide) (by decide) ?_
        refine e_aload_n 74 dX7_span_73 rfl rfl ?_
        refine e_getr 77 dX7_span_74 lf_X7_41 rfl rfl rfl (by decide) hr.writings ?_
        refine e_iload_n 78 dX7_span_77 rfl rfl ?_
        refine c_Vqi 81 (ci := 6) dX7_span_78 (k_X6_greatest G hr hX hF hw9) lm_X7_271 zi_yX6_greatest zs_yX6_greatest rfl rfl (by decide) rfl rfl rfl (Nat.le_of_ble_eq_true rfl) (Nat.le_of_ble_eq_true rfl) (Nat.le_of_ble_eq_true rfl) (by exact Nat.le_refl _) (by exact Nat.le_refl _) ?_
        refine e_ireturn .int dX7_span_81 rfl rfl ?_
        exact ⟨someI ((iteP (show sSpanOk Λ w (nI 1) from ⟨h5, h14⟩)).trans ((if_neg (by omega)).trans rfl)), rfl, rfl, rfl⟩
      · refine e_ldc 35 lc_X7_255 dX7_span_33 rfl ?_
        refine e_ireturn .int dX7_span_35 rfl rfl ?_
        exact ⟨someI ((iteP (show sSpanOk Λ w (nI 1) from ⟨h5, h14⟩)).trans (if_pos (by omega))), rfl, rfl, rfl⟩
    · exact absurd ((vR_nI (by decide)).mpr ⟨by decide, by decide⟩) (zB_0 h14)

set_option maxHeartbeats 4000000 in
set_option maxRecDepth 100000 in
theorem k_X7_span_2 (G : zG) {D E : Nat} {Λ : zLd} {late : Nat} {tr : Int64} {t : zTx} {m : zMo} {im : Nat → Nat × zMo} {l : zLt} {r : zWr} {mi : zFi} {ml : zFl} {mr : zFr} (hr : zRf mr D E) (hX : zX mi ml D Λ late tr t m im l r) (hF : zWf Λ late t m im l r) {w : Int32} : zMet G 2 yX7_span cX7_span 4 (some .int) [.ref 0, .int w, .int (nI 2)] 238 mi ml mr 238 (zPq (some (.int (sSpan Λ r w (nI 2)))) mi ml mr) := by
  obtain ⟨hΛ, hlate, htr, ht, hm, him, hl, hw, hn72⟩ := id hX
  obtain ⟨hW, hla30, htw, hmw, himw, hlw, hrw⟩ := id hF
  have hP3 := hW.1.1
  have hW5 := hW.1.2.1
  have hy99 := hmw.1
  have hD9 := hr.Dl
  refine z_intro ([.ref 0, .int w, .int (nI 2), zx]) (by decide) rfl (Nat.le_of_ble_eq_true rfl) ?_
  refine e_aload_n 1 dX7_span_0 rfl rfl ?_
  refine e_iload_n 2 dX7_span_1 rfl rfl ?_
  refine c_Vqi 5 (ci := 7) dX7_span_2 (k_X7_isWord G hr hΛ hW) lm_X7_126 zi_yX7_isWord zs_yX7_isWord rfl (by first | rfl | assumption) (by first | decide | omega) rfl rfl rfl (Nat.le_of_ble_eq_true rfl) (Nat.le_of_ble_eq_true rfl) (Nat.le_of_ble_eq_true rfl) (by exact Nat.le_refl _) (by exact Nat.le_refl _) ?_
  refine e_if_eq 17 8 dX7_span_5 (by decide) rfl (fun h5 => ?_) (fun h5 => ?_)
  · have h5 := zB_0 h5
    refine e_ldc 19 lc_X7_255 dX7_span_17 rfl ?_
    refine e_ireturn .int dX7_span_19 rfl rfl ?_
    exact ⟨someI (iteN (fun z => h5 z.1)), rfl, rfl, rfl⟩
  · have h5 := zB_1 h5
    obtain ⟨ew, hw9⟩ := h5.nat
    refine e_iload_n 9 dX7_span_8 rfl rfl ?_
    refine e_iconst 10 hic_0 dX7_span_9 rfl ?_
    refine e_iconst 11 hic_3 dX7_span_10 rfl ?_
    refine c_Sqi 14 dX7_span_11 (k_X7_btw G (by decide) (by decide)) lm_X7_80 zt_yX7_between rfl rfl rfl (Nat.le_of_ble_eq_true rfl) (Nat.le_of_ble_eq_true rfl) (Nat.le_of_ble_eq_true rfl) (by exact Nat.le_refl _) (by exact Nat.le_refl _) ?_
    refine e_if_ne 20 17 dX7_span_14 (by decide) rfl (fun h14 => ?_) (fun h14 => ?_)
    · have h14 := zB_1 h14
      have hco := zWco_le r (zK w)
      have hr40 := hrw.1
      refine e_aload_n 21 dX7_span_20 rfl rfl ?_
      refine e_getr 24 dX7_span_21 lf_X7_41 rfl rfl rfl (by decide) hr.writings ?_
      refine e_iload_n 25 dX7_span_24 rfl rfl ?_
      rw [show (Value.int w) = Value.int (nI (zK w)) from congrArg Value.int ew]
      refine c_Vqi 28 (ci := 6) dX7_span_25 (k_X6_countOf G hr hX hF hw9) lm_X7_265 zi_yX6_countOf zs_yX6_countOf rfl rfl (by decide) rfl rfl rfl (Nat.le_of_ble_eq_true rfl) (Nat.le_of_ble_eq_true rfl) (Nat.le_of_ble_eq_true rfl) (by exact Nat.le_refl _) (by exact Nat.le_refl _) ?_
      refine e_istore_n 29 dX7_span_28 rfl (by decide) (zst1_3 rfl) ?_
      refine e_iload_n 30 dX7_span_29 rfl rfl ?_
      refine e_if_neN 36 33 dX7_span_30 (by decide) rfl (by omega) (fun h30 => ?_) (fun h30 => ?_)
      · refine e_iload_n 37 dX7_span_36 rfl rfl ?_
        refine e_lookup 82 (off := 45) dX7_span_37 (by decide) (by decide) (by decide) ?_
        refine e_aload_n 83 dX7_span_82 rfl rfl ?_
        refine e_getr 86 dX7_span_83 lf_X7_41 rfl rfl rfl (by decide) hr.writings ?_
        refine e_iload_n 87 dX7_span_86 rfl rfl ?_
        refine c_Vqi 90 (ci := 6) dX7_span_87 (k_X6_sum G hr hX hF hw9) lm_X7_274 zi_yX6_sum zs_yX6_sum rfl rfl (by decide) rfl rfl rfl (Nat.le_of_ble_eq_true rfl) (Nat.le_of_ble_eq_true rfl) (Nat.le_of_ble_eq_true rfl) (by exact Nat.le_refl _) (by exact Nat.le_refl _) ?_
        refine e_i2l 91 dX7_span_90 rfl ?_
        refine e_iload_n 92 dX7_span_91 rfl rfl ?_
        refine e_i2l 93 dX7_span_92 rfl ?_
        rw [i2l_nI9 (by omega)]
        refine e_iload_n 94 dX7_span_93 rfl rfl ?_
        refine e_iconst 95 hic_2 dX7_span_94 rfl ?_
        first | refine e_isubN 96 dX7_span_95 rfl (by decide) ?_ | refine e_isub 96 dX7_span_95 rfl ?_
        refine c_Sql 99 dX7_span_96 (k_X7_leastTerms G (k := 2 - 2) (zAbs_i2l _) (zAbs_lt _) (by omega) (by omega) (by decide)) lm_X7_215 zt_yX7_leastTerms rfl rfl rfl (Nat.le_of_ble_eq_true rfl) (Nat.le_of_ble_eq_true rfl) (Nat.le_of_ble_eq_true rfl) (by exact Nat.le_refl _) (by exact Nat.le_refl _) ?_
        refine e_l2i 100 dX7_span_99 rfl ?_
        refine e_ireturn .int dX7_span_100 rfl rfl ?_
        exact ⟨someI ((iteP (show sSpanOk Λ w (nI 2) from ⟨h5, h14⟩)).trans ((if_neg (by omega)).trans rfl)), rfl, rfl, rfl⟩
      · refine e_ldc 35 lc_X7_255 dX7_span_33 rfl ?_
        refine e_ireturn .int dX7_span_35 rfl rfl ?_
        exact ⟨someI ((iteP (show sSpanOk Λ w (nI 2) from ⟨h5, h14⟩)).trans (if_pos (by omega))), rfl, rfl, rfl⟩
    · exact absurd ((vR_nI (by decide)).mpr ⟨by decide, by decide⟩) (zB_0 h14)

set_option maxHeartbeats 4000000 in
set_option maxRecDepth 100000 in
theorem k_X7_span_3 (G : zG) {D E : Nat} {Λ : zLd} {late : Nat} {tr : Int64} {t : zTx} {m : zMo} {im : Nat → Nat × zMo} {l : zLt} {r : zWr} {mi : zFi} {ml : zFl} {mr : zFr} (hr : zRf mr D E) (hX : zX mi ml D Λ late tr t m im l r) (hF : zWf Λ late t m im l r) {w : Int32} : zMet G 2 yX7_span cX7_span 4 (some .int) [.ref 0, .int w, .int (nI 3)] 238 mi ml mr 238 (zPq (some (.int (sSpan Λ r w (nI 3)))) mi ml mr) := by
  obtain ⟨hΛ, hlate, htr, ht, hm, him, hl, hw, hn72⟩ := id hX
  obtain ⟨hW, hla30, htw, hmw, himw, hlw, hrw⟩ := id hF
  have hP3 := hW.1.1
  have hW5 := hW.1.2.1
  have hy99 := hmw.1
  have hD9 := hr.Dl
  refine z_intro ([.ref 0, .int w, .int (nI 3), zx]) (by decide) rfl (Nat.le_of_ble_eq_true rfl) ?_
  refine e_aload_n 1 dX7_span_0 rfl rfl ?_
  refine e_iload_n 2 dX7_span_1 rfl rfl ?_
  refine c_Vqi 5 (ci := 7) dX7_span_2 (k_X7_isWord G hr hΛ hW) lm_X7_126 zi_yX7_isWord zs_yX7_isWord rfl (by first | rfl | assumption) (by first | decide | omega) rfl rfl rfl (Nat.le_of_ble_eq_true rfl) (Nat.le_of_ble_eq_true rfl) (Nat.le_of_ble_eq_true rfl) (by exact Nat.le_refl _) (by exact Nat.le_refl _) ?_
  refine e_if_eq 17 8 dX7_span_5 (by decide) rfl (fun h5 => ?_) (fun h5 => ?_)
  · have h5 := zB_0 h5
    refine e_ldc 19 lc_X7_255 dX7_span_17 rfl ?_
    refine e_ireturn .int dX7_span_19 rfl rfl ?_
    exact ⟨someI (iteN (fun z => h5 z.1)), rfl, rfl, rfl⟩
  · have h5 := zB_1 h5
    obtain ⟨ew, hw9⟩ := h5.nat
    refine e_iload_n 9 dX7_span_8 rfl rfl ?_
    refine e_iconst 10 hic_0 dX7_span_9 rfl ?_
    refine e_iconst 11 hic_3 dX7_span_10 rfl ?_
    refine c_Sqi 14 dX7_span_11 (k_X7_btw G (by decide) (by decide)) lm_X7_80 zt_yX7_between rfl rfl rfl (Nat.le_of_ble_eq_true rfl) (Nat.le_of_ble_eq_true rfl) (Nat.le_of_ble_eq_true rfl) (by exact Nat.le_refl _) (by exact Nat.le_refl _) ?_
    refine e_if_ne 20 17 dX7_span_14 (by decide) rfl (fun h14 => ?_) (fun h14 => ?_)
    · have h14 := zB_1 h14
      have hco := zWco_le r (zK w)
      have hr40 := hrw.1
      refine e_aload_n 21 dX7_span_20 rfl rfl ?_
      refine e_getr 24 dX7_span_21 lf_X7_41 rfl rfl rfl (by decide) hr.writings ?_
      refine e_iload_n 25 dX7_span_24 rfl rfl ?_
      rw [show (Value.int w) = Value.int (nI (zK w)) from congrArg Value.int ew]
      refine c_Vqi 28 (ci := 6) dX7_span_25 (k_X6_countOf G hr hX hF hw9) lm_X7_265 zi_yX6_countOf zs_yX6_countOf rfl rfl (by decide) rfl rfl rfl (Nat.le_of_ble_eq_true rfl) (Nat.le_of_ble_eq_true rfl) (Nat.le_of_ble_eq_true rfl) (by exact Nat.le_refl _) (by exact Nat.le_refl _) ?_
      refine e_istore_n 29 dX7_span_28 rfl (by decide) (zst1_3 rfl) ?_
      refine e_iload_n 30 dX7_span_29 rfl rfl ?_
      refine e_if_neN 36 33 dX7_span_30 (by decide) rfl (by omega) (fun h30 => ?_) (fun h30 => ?_)
      · refine e_iload_n 37 dX7_span_36 rfl rfl ?_
        refine e_lookup 82 (off := 45) dX7_span_37 (by decide) (by decide) (by decide) ?_
        refine e_aload_n 83 dX7_span_82 rfl rfl ?_
        refine e_getr 86 dX7_span_83 lf_X7_41 rfl rfl rfl (by decide) hr.writings ?_
        refine e_iload_n 87 dX7_span_86 rfl rfl ?_
        refine c_Vqi 90 (ci := 6) dX7_span_87 (k_X6_sum G hr hX hF hw9) lm_X7_274 zi_yX6_sum zs_yX6_sum rfl rfl (by decide) rfl rfl rfl (Nat.le_of_ble_eq_true rfl) (Nat.le_of_ble_eq_true rfl) (Nat.le_of_ble_eq_true rfl) (by exact Nat.le_refl _) (by exact Nat.le_refl _) ?_
        refine e_i2l 91 dX7_span_90 rfl ?_
        refine e_iload_n 92 dX7_span_91 rfl rfl ?_
        refine e_i2l 93 dX7_span_92 rfl ?_
        rw [i2l_nI9 (by omega)]
        refine e_iload_n 94 dX7_span_93 rfl rfl ?_
        refine e_iconst 95 hic_2 dX7_span_94 rfl ?_
        first | refine e_isubN 96 dX7_span_95 rfl (by decide) ?_ | refine e_isub 96 dX7_span_95 rfl ?_
        refine c_Sql 99 dX7_span_96 (k_X7_leastTerms G (k := 3 - 2) (zAbs_i2l _) (zAbs_lt _) (by omega) (by omega) (by decide)) lm_X7_215 zt_yX7_leastTerms rfl rfl rfl (Nat.le_of_ble_eq_true rfl) (Nat.le_of_ble_eq_true rfl) (Nat.le_of_ble_eq_true rfl) (by exact Nat.le_refl _) (by exact Nat.le_refl _) ?_
        refine e_l2i 100 dX7_span_99 rfl ?_
        refine e_ireturn .int dX7_span_100 rfl rfl ?_
        exact ⟨someI ((iteP (show sSpanOk Λ w (nI 3) from ⟨h5, h14⟩)).trans ((if_neg (by omega)).trans rfl)), rfl, rfl, rfl⟩
      · refine e_ldc 35 lc_X7_255 dX7_span_33 rfl ?_
        refine e_ireturn .int dX7_span_35 rfl rfl ?_
        exact ⟨someI ((iteP (show sSpanOk Λ w (nI 3) from ⟨h5, h14⟩)).trans (if_pos (by omega))), rfl, rfl, rfl⟩
    · exact absurd ((vR_nI (by decide)).mpr ⟨by decide, by decide⟩) (zB_0 h14)

set_option maxHeartbeats 4000000 in
set_option maxRecDepth 100000 in
theorem k_X7_span_d (G : zG) {D E : Nat} {Λ : zLd} {late : Nat} {tr : Int64} {t : zTx} {m : zMo} {im : Nat → Nat × zMo} {l : zLt} {r : zWr} {mi : zFi} {ml : zFl} {mr : zFr} (hr : zRf mr D E) (hX : zX mi ml D Λ late tr t m im l r) (hF : zWf Λ late t m im l r) {w what : Int32} (hbad : ¬ vN what 4) : zMet G 2 yX7_span cX7_span 4 (some .int) [.ref 0, .int w, .int what] 238 mi ml mr 238 (zPq (some (.int (sSpan Λ r w what))) mi ml mr) := by
  obtain ⟨hΛ, hlate, htr, ht, hm, him, hl, hw, hn72⟩ := id hX
  obtain ⟨hW, hla30, htw, hmw, himw, hlw, hrw⟩ := id hF
  have hP3 := hW.1.1
  have hW5 := hW.1.2.1
  have hy99 := hmw.1
  have hD9 := hr.Dl
  refine z_intro ([.ref 0, .int w, .int what, zx]) (by decide) rfl (Nat.le_of_ble_eq_true rfl) ?_
  refine e_aload_n 1 dX7_span_0 rfl rfl ?_
  refine e_iload_n 2 dX7_span_1 rfl rfl ?_
  refine c_Vqi 5 (ci := 7) dX7_span_2 (k_X7_isWord G hr hΛ hW) lm_X7_126 zi_yX7_isWord zs_yX7_isWord rfl (by first | rfl | assumption) (by first | decide | omega) rfl rfl rfl (Nat.le_of_ble_eq_true rfl) (Nat.le_of_ble_eq_true rfl) (Nat.le_of_ble_eq_true rfl) (by exact Nat.le_refl _) (by exact Nat.le_refl _) ?_
  refine e_if_eq 17 8 dX7_span_5 (by decide) rfl (fun h5 => ?_) (fun h5 => ?_)
  · have h5 := zB_0 h5
    refine e_ldc 19 lc_X7_255 dX7_span_17 rfl ?_
    refine e_ireturn .int dX7_span_19 rfl rfl ?_
    exact ⟨someI (iteN (fun z => by first | exact h5 z.1 | exact h14 z.2)), rfl, rfl, rfl⟩
  · have h5 := zB_1 h5
    obtain ⟨ew, hw9⟩ := h5.nat
    refine e_iload_n 9 dX7_span_8 rfl rfl ?_
    refine e_iconst 10 hic_0 dX7_span_9 rfl ?_
    refine e_iconst 11 hic_3 dX7_span_10 rfl ?_
    refine c_Sqi 14 dX7_span_11 (k_X7_btw G (by decide) (by decide)) lm_X7_80 zt_yX7_between rfl rfl rfl (Nat.le_of_ble_eq_true rfl) (Nat.le_of_ble_eq_true rfl) (Nat.le_of_ble_eq_true rfl) (by exact Nat.le_refl _) (by exact Nat.le_refl _) ?_
    refine e_if_ne 20 17 dX7_span_14 (by decide) rfl (fun h14 => ?_) (fun h14 => ?_)
    · exact absurd (show vN what 4 from ⟨by have := (zB_1 h14).1; omega, by have := (zB_1 h14).2; omega⟩) hbad
    · have h14 := zB_0 h14
      refine e_ldc 19 lc_X7_255 dX7_span_17 rfl ?_
      refine e_ireturn .int dX7_span_19 rfl rfl ?_
      exact ⟨someI (iteN (fun z => by first | exact h5 z.1 | exact h14 z.2)), rfl, rfl, rfl⟩

set_option maxHeartbeats 4000000 in
set_option maxRecDepth 100000 in
theorem k_X7_span (G : zG) {D E : Nat} {Λ : zLd} {late : Nat} {tr : Int64} {t : zTx} {m : zMo} {im : Nat → Nat × zMo} {l : zLt} {r : zWr} {mi : zFi} {ml : zFl} {mr : zFr} (hr : zRf mr D E) (hX : zX mi ml D Λ late tr t m im l r) (hF : zWf Λ late t m im l r) {w what : Int32} : zMet G 2 yX7_span cX7_span 4 (some .int) [.ref 0, .int w, .int what] 238 mi ml mr 238 (zPq (some (.int (sSpan Λ r w what))) mi ml mr) := by
  by_cases h : vN what 4
  · obtain ⟨e, hk⟩ := h.nat
    rw [e]
    have h5 : zK what = 0 ∨ zK what = 1 ∨ zK what = 2 ∨ zK what = 3 := by omega
    rcases h5 with q | q | q | q
    · rw [q]; exact k_X7_span_0 G hr hX hF
    · rw [q]; exact k_X7_span_1 G hr hX hF
    · rw [q]; exact k_X7_span_2 G hr hX hF
    · rw [q]; exact k_X7_span_3 G hr hX hF
  · exact k_X7_span_d G hr hX hF h

