theorem nI_mul (a b : Nat) : nI a * nI b = nI (a * b) := by
  unfold nI
  exact (Int32.ofNat_mul a b).symm
theorem nI_sub {a b : Nat} (h : b ≤ a) : nI a - nI b = nI (a - b) := by
  have e : nI a = nI (a - b) + nI b := by rw [nI_add, Nat.sub_add_cancel h]
  rw [e, Int32.add_sub_cancel]
theorem nI_div {a b : Nat} (ha : a < 2 ^ 31) (hb : b < 2 ^ 31) : nI a / nI b = nI (a / b) := by
  apply Int32.toInt_inj.mp
  have h1 : a / b < 2 ^ 31 := Nat.lt_of_le_of_lt (Nat.div_le_self a b) ha
  rw [Int32.toInt_div, nI_toInt ha, nI_toInt hb, nI_toInt h1]
  have h2 : ((a : Int).tdiv (b : Int)) = ((a / b : Nat) : Int) := by
    rw [Int.tdiv_eq_ediv_of_nonneg (by omega)]; rfl
  rw [h2]
  clear h2
  generalize a / b = x at h1 ⊢
  apply Int.bmod_eq_of_le <;> omega
theorem z_inc {a c : Nat} {q : Int} (h : Int32.ofInt q = nI c) : nI a + Int32.ofInt q = nI (a + c) := by rw [h, nI_add]
theorem z_dec {a : Nat} (h : 1 ≤ a) : nI a + Int32.ofInt (-1) = nI (a - 1) := by
  have e : (Int32.ofInt (-1)) = -(nI 1) := by decide
  rw [e, ← Int32.sub_eq_add_neg, nI_sub h]
section ZROWS2
variable {G : zG} {R : Room} {QQ : zQQ} {own mn : String} {cc : ByteArray} {nL : Nat} {ret : Option FieldType} {n0 pc : Nat} {L st : List Value} {n : Nat} {mi : zFi} {ml : zFl} {mr : zFr}
theorem e_iaddN (pc' : Nat) {a b : Nat} (hd : decode cc pc = .ok (.iadd, 1)) (hp : pc + 1 = pc') (k : zE G R QQ own mn cc nL ret n0 pc' L (.int (nI (a + b)) :: st) n mi ml mr) : zE G R QQ own mn cc nL ret n0 pc L (.int (nI b) :: .int (nI a) :: st) n mi ml mr := by
  refine e_iadd pc' hd hp ?_
  rw [nI_add]
  exact k
theorem e_imulN (pc' : Nat) {a b : Nat} (hd : decode cc pc = .ok (.imul, 1)) (hp : pc + 1 = pc') (k : zE G R QQ own mn cc nL ret n0 pc' L (.int (nI (a * b)) :: st) n mi ml mr) : zE G R QQ own mn cc nL ret n0 pc L (.int (nI b) :: .int (nI a) :: st) n mi ml mr := by
  refine e_imul pc' hd hp ?_
  rw [nI_mul]
  exact k
theorem e_isubN (pc' : Nat) {a b : Nat} (hd : decode cc pc = .ok (.isub, 1)) (hp : pc + 1 = pc') (h : b ≤ a) (k : zE G R QQ own mn cc nL ret n0 pc' L (.int (nI (a - b)) :: st) n mi ml mr) : zE G R QQ own mn cc nL ret n0 pc L (.int (nI b) :: .int (nI a) :: st) n mi ml mr := by
  refine e_isub pc' hd hp ?_
  rw [nI_sub h]
  exact k
theorem e_idivN (pc' : Nat) {a b : Nat} (hd : decode cc pc = .ok (.idiv, 1)) (hp : pc + 1 = pc') (ha : a < 2 ^ 31) (hb : b < 2 ^ 31) (hne : 0 < b) (k : zE G R QQ own mn cc nL ret n0 pc' L (.int (nI (a / b)) :: st) n mi ml mr) : zE G R QQ own mn cc nL ret n0 pc L (.int (nI b) :: .int (nI a) :: st) n mi ml mr := by
  refine e_idiv pc' hd hp (nI_ne0 hne hb) ?_
  rw [nI_div ha hb]
  exact k
theorem zI_lt {a b : Nat} (ha : a < 2 ^ 31) (hb : b < 2 ^ 31) : (nI a < nI b) = (a < b) := propext (nI_ltI ha hb)
theorem zI_le {a b : Nat} (ha : a < 2 ^ 31) (hb : b < 2 ^ 31) : (nI a ≤ nI b) = (a ≤ b) := propext (nI_leI ha hb)
theorem zI_eq {a b : Nat} (ha : a < 2 ^ 31) (hb : b < 2 ^ 31) : (nI a = nI b) = (a = b) := propext (nI_eq ha hb)
theorem e_icmp_eqN (tgt pc' : Nat) {a b : Nat} {off : Int} (hd : decode cc pc = .ok (.if_icmp .eq off, 3)) (ht : (pc : Int) + off = (tgt : Int)) (hp : pc + 3 = pc') (ha : a < 2 ^ 31) (hb : b < 2 ^ 31) (kt : a = b → zE G R QQ own mn cc nL ret n0 tgt L st n mi ml mr) (kf : ¬ a = b → zE G R QQ own mn cc nL ret n0 pc' L st n mi ml mr) : zE G R QQ own mn cc nL ret n0 pc L (.int (nI b) :: .int (nI a) :: st) n mi ml mr := by
  refine e_icmp_eq tgt pc' hd ht hp (fun q => kt ?_) (fun q => kf ?_)
  · first | (rw [zI_lt hb ha] at q) | (rw [zI_lt ha hb] at q) | (rw [zI_le ha hb] at q) | (rw [zI_le hb ha] at q) | (simp only [ne_eq, zI_eq ha hb] at q)
    first | trivial | omega
  · first | (rw [zI_lt hb ha] at q) | (rw [zI_lt ha hb] at q) | (rw [zI_le ha hb] at q) | (rw [zI_le hb ha] at q) | (simp only [ne_eq, zI_eq ha hb] at q)
    first | trivial | omega
theorem e_icmp_neN (tgt pc' : Nat) {a b : Nat} {off : Int} (hd : decode cc pc = .ok (.if_icmp .ne off, 3)) (ht : (pc : Int) + off = (tgt : Int)) (hp : pc + 3 = pc') (ha : a < 2 ^ 31) (hb : b < 2 ^ 31) (kt : ¬ a = b → zE G R QQ own mn cc nL ret n0 tgt L st n mi ml mr) (kf : a = b → zE G R QQ own mn cc nL ret n0 pc' L st n mi ml mr) : zE G R QQ own mn cc nL ret n0 pc L (.int (nI b) :: .int (nI a) :: st) n mi ml mr := by
  refine e_icmp_ne tgt pc' hd ht hp (fun q => kt ?_) (fun q => kf ?_)
  · first | (rw [zI_lt hb ha] at q) | (rw [zI_lt ha hb] at q) | (rw [zI_le ha hb] at q) | (rw [zI_le hb ha] at q) | (simp only [ne_eq, zI_eq ha hb] at q)
    first | trivial | omega
  · first | (rw [zI_lt hb ha] at q) | (rw [zI_lt ha hb] at q) | (rw [zI_le ha hb] at q) | (rw [zI_le hb ha] at q) | (simp only [ne_eq, zI_eq ha hb] at q)
    first | trivial | omega
theorem e_icmp_ltN (tgt pc' : Nat) {a b : Nat} {off : Int} (hd : decode cc pc = .ok (.if_icmp .lt off, 3)) (ht : (pc : Int) + off = (tgt : Int)) (hp : pc + 3 = pc') (ha : a < 2 ^ 31) (hb : b < 2 ^ 31) (kt : a < b → zE G R QQ own mn cc nL ret n0 tgt L st n mi ml mr) (kf : b ≤ a → zE G R QQ own mn cc nL ret n0 pc' L st n mi ml mr) : zE G R QQ own mn cc nL ret n0 pc L (.int (nI b) :: .int (nI a) :: st) n mi ml mr := by
  refine e_icmp_lt tgt pc' hd ht hp (fun q => kt ?_) (fun q => kf ?_)
  · first | (rw [zI_lt hb ha] at q) | (rw [zI_lt ha hb] at q) | (rw [zI_le ha hb] at q) | (rw [zI_le hb ha] at q) | (simp only [ne_eq, zI_eq ha hb] at q)
    first | trivial | omega
  · first | (rw [zI_lt hb ha] at q) | (rw [zI_lt ha hb] at q) | (rw [zI_le ha hb] at q) | (rw [zI_le hb ha] at q) | (simp only [ne_eq, zI_eq ha hb] at q)
    first | trivial | omega
theorem e_icmp_geN (tgt pc' : Nat) {a b : Nat} {off : Int} (hd : decode cc pc = .ok (.if_icmp .ge off, 3)) (ht : (pc : Int) + off = (tgt : Int)) (hp : pc + 3 = pc') (ha : a < 2 ^ 31) (hb : b < 2 ^ 31) (kt : b ≤ a → zE G R QQ own mn cc nL ret n0 tgt L st n mi ml mr) (kf : a < b → zE G R QQ own mn cc nL ret n0 pc' L st n mi ml mr) : zE G R QQ own mn cc nL ret n0 pc L (.int (nI b) :: .int (nI a) :: st) n mi ml mr := by
  refine e_icmp_ge tgt pc' hd ht hp (fun q => kt ?_) (fun q => kf ?_)
  · first | (rw [zI_lt hb ha] at q) | (rw [zI_lt ha hb] at q) | (rw [zI_le ha hb] at q) | (rw [zI_le hb ha] at q) | (simp only [ne_eq, zI_eq ha hb] at q)
    first | trivial | omega
  · first | (rw [zI_lt hb ha] at q) | (rw [zI_lt ha hb] at q) | (rw [zI_le ha hb] at q) | (rw [zI_le hb ha] at q) | (simp only [ne_eq, zI_eq ha hb] at q)
    first | trivial | omega
theorem e_icmp_gtN (tgt pc' : Nat) {a b : Nat} {off : Int} (hd : decode cc pc = .ok (.if_icmp .gt off, 3)) (ht : (pc : Int) + off = (tgt : Int)) (hp : pc + 3 = pc') (ha : a < 2 ^ 31) (hb : b < 2 ^ 31) (kt : b < a → zE G R QQ own mn cc nL ret n0 tgt L st n mi ml mr) (kf : a ≤ b → zE G R QQ own mn cc nL ret n0 pc' L st n mi ml mr) : zE G R QQ own mn cc nL ret n0 pc L (.int (nI b) :: .int (nI a) :: st) n mi ml mr := by
  refine e_icmp_gt tgt pc' hd ht hp (fun q => kt ?_) (fun q => kf ?_)
  · first | (rw [zI_lt hb ha] at q) | (rw [zI_lt ha hb] at q) | (rw [zI_le ha hb] at q) | (rw [zI_le hb ha] at q) | (simp only [ne_eq, zI_eq ha hb] at q)
    first | trivial | omega
  · first | (rw [zI_lt hb ha] at q) | (rw [zI_lt ha hb] at q) | (rw [zI_le ha hb] at q) | (rw [zI_le hb ha] at q) | (simp only [ne_eq, zI_eq ha hb] at q)
    first | trivial | omega
theorem e_icmp_leN (tgt pc' : Nat) {a b : Nat} {off : Int} (hd : decode cc pc = .ok (.if_icmp .le off, 3)) (ht : (pc : Int) + off = (tgt : Int)) (hp : pc + 3 = pc') (ha : a < 2 ^ 31) (hb : b < 2 ^ 31) (kt : a ≤ b → zE G R QQ own mn cc nL ret n0 tgt L st n mi ml mr) (kf : b < a → zE G R QQ own mn cc nL ret n0 pc' L st n mi ml mr) : zE G R QQ own mn cc nL ret n0 pc L (.int (nI b) :: .int (nI a) :: st) n mi ml mr := by
  refine e_icmp_le tgt pc' hd ht hp (fun q => kt ?_) (fun q => kf ?_)
  · first | (rw [zI_lt hb ha] at q) | (rw [zI_lt ha hb] at q) | (rw [zI_le ha hb] at q) | (rw [zI_le hb ha] at q) | (simp only [ne_eq, zI_eq ha hb] at q)
    first | trivial | omega
  · first | (rw [zI_lt hb ha] at q) | (rw [zI_lt ha hb] at q) | (rw [zI_le ha hb] at q) | (rw [zI_le hb ha] at q) | (simp only [ne_eq, zI_eq ha hb] at q)
    first | trivial | omega
theorem e_if_eqN (tgt pc' : Nat) {a : Nat} {off : Int} (hd : decode cc pc = .ok (.ifCond .eq off, 3)) (ht : (pc : Int) + off = (tgt : Int)) (hp : pc + 3 = pc') (ha : a < 2 ^ 31) (kt : a = 0 → zE G R QQ own mn cc nL ret n0 tgt L st n mi ml mr) (kf : 0 < a → zE G R QQ own mn cc nL ret n0 pc' L st n mi ml mr) : zE G R QQ own mn cc nL ret n0 pc L (.int (nI a) :: st) n mi ml mr := by
  have hb : 0 < 2 ^ 31 := by decide
  refine e_if_eq tgt pc' hd ht hp (fun q => kt ?_) (fun q => kf ?_)
  · rw [← nI_0] at q
    first | (rw [zI_lt hb ha] at q) | (rw [zI_lt ha hb] at q) | (rw [zI_le ha hb] at q) | (rw [zI_le hb ha] at q) | (simp only [ne_eq, zI_eq ha hb] at q)
    first | trivial | omega
  · rw [← nI_0] at q
    first | (rw [zI_lt hb ha] at q) | (rw [zI_lt ha hb] at q) | (rw [zI_le ha hb] at q) | (rw [zI_le hb ha] at q) | (simp only [ne_eq, zI_eq ha hb] at q)
    first | trivial | omega
theorem e_if_neN (tgt pc' : Nat) {a : Nat} {off : Int} (hd : decode cc pc = .ok (.ifCond .ne off, 3)) (ht : (pc : Int) + off = (tgt : Int)) (hp : pc + 3 = pc') (ha : a < 2 ^ 31) (kt : 0 < a → zE G R QQ own mn cc nL ret n0 tgt L st n mi ml mr) (kf : a = 0 → zE G R QQ own mn cc nL ret n0 pc' L st n mi ml mr) : zE G R QQ own mn cc nL ret n0 pc L (.int (nI a) :: st) n mi ml mr := by
  have hb : 0 < 2 ^ 31 := by decide
  refine e_if_ne tgt pc' hd ht hp (fun q => kt ?_) (fun q => kf ?_)
  · rw [← nI_0] at q
    first | (rw [zI_lt hb ha] at q) | (rw [zI_lt ha hb] at q) | (rw [zI_le ha hb] at q) | (rw [zI_le hb ha] at q) | (simp only [ne_eq, zI_eq ha hb] at q)
    first | trivial | omega
  · rw [← nI_0] at q
    first | (rw [zI_lt hb ha] at q) | (rw [zI_lt ha hb] at q) | (rw [zI_le ha hb] at q) | (rw [zI_le hb ha] at q) | (simp only [ne_eq, zI_eq ha hb] at q)
    first | trivial | omega
theorem e_if_ltN (tgt pc' : Nat) {a : Nat} {off : Int} (hd : decode cc pc = .ok (.ifCond .lt off, 3)) (ht : (pc : Int) + off = (tgt : Int)) (hp : pc + 3 = pc') (ha : a < 2 ^ 31) (kt : False → zE G R QQ own mn cc nL ret n0 tgt L st n mi ml mr) (kf : True → zE G R QQ own mn cc nL ret n0 pc' L st n mi ml mr) : zE G R QQ own mn cc nL ret n0 pc L (.int (nI a) :: st) n mi ml mr := by
  have hb : 0 < 2 ^ 31 := by decide
  refine e_if_lt tgt pc' hd ht hp (fun q => kt ?_) (fun q => kf ?_)
  · rw [← nI_0] at q
    first | (rw [zI_lt hb ha] at q) | (rw [zI_lt ha hb] at q) | (rw [zI_le ha hb] at q) | (rw [zI_le hb ha] at q) | (simp only [ne_eq, zI_eq ha hb] at q)
    first | trivial | omega
  · rw [← nI_0] at q
    first | (rw [zI_lt hb ha] at q) | (rw [zI_lt ha hb] at q) | (rw [zI_le ha hb] at q) | (rw [zI_le hb ha] at q) | (simp only [ne_eq, zI_eq ha hb] at q)
    first | trivial | omega
theorem e_if_geN (tgt pc' : Nat) {a : Nat} {off : Int} (hd : decode cc pc = .ok (.ifCond .ge off, 3)) (ht : (pc : Int) + off = (tgt : Int)) (hp : pc + 3 = pc') (ha : a < 2 ^ 31) (kt : True → zE G R QQ own mn cc nL ret n0 tgt L st n mi ml mr) (kf : False → zE G R QQ own mn cc nL ret n0 pc' L st n mi ml mr) : zE G R QQ own mn cc nL ret n0 pc L (.int (nI a) :: st) n mi ml mr := by
  have hb : 0 < 2 ^ 31 := by decide
  refine e_if_ge tgt pc' hd ht hp (fun q => kt ?_) (fun q => kf ?_)
  · rw [← nI_0] at q
    first | (rw [zI_lt hb ha] at q) | (rw [zI_lt ha hb] at q) | (rw [zI_le ha hb] at q) | (rw [zI_le hb ha] at q) | (simp only [ne_eq, zI_eq ha hb] at q)
    first | trivial | omega
  · rw [← nI_0] at q
    first | (rw [zI_lt hb ha] at q) | (rw [zI_lt ha hb] at q) | (rw [zI_le ha hb] at q) | (rw [zI_le hb ha] at q) | (simp only [ne_eq, zI_eq ha hb] at q)
    first | trivial | omega
theorem e_if_gtN (tgt pc' : Nat) {a : Nat} {off : Int} (hd : decode cc pc = .ok (.ifCond .gt off, 3)) (ht : (pc : Int) + off = (tgt : Int)) (hp : pc + 3 = pc') (ha : a < 2 ^ 31) (kt : 0 < a → zE G R QQ own mn cc nL ret n0 tgt L st n mi ml mr) (kf : a = 0 → zE G R QQ own mn cc nL ret n0 pc' L st n mi ml mr) : zE G R QQ own mn cc nL ret n0 pc L (.int (nI a) :: st) n mi ml mr := by
  have hb : 0 < 2 ^ 31 := by decide
  refine e_if_gt tgt pc' hd ht hp (fun q => kt ?_) (fun q => kf ?_)
  · rw [← nI_0] at q
    first | (rw [zI_lt hb ha] at q) | (rw [zI_lt ha hb] at q) | (rw [zI_le ha hb] at q) | (rw [zI_le hb ha] at q) | (simp only [ne_eq, zI_eq ha hb] at q)
    first | trivial | omega
  · rw [← nI_0] at q
    first | (rw [zI_lt hb ha] at q) | (rw [zI_lt ha hb] at q) | (rw [zI_le ha hb] at q) | (rw [zI_le hb ha] at q) | (simp only [ne_eq, zI_eq ha hb] at q)
    first | trivial | omega
theorem e_if_leN (tgt pc' : Nat) {a : Nat} {off : Int} (hd : decode cc pc = .ok (.ifCond .le off, 3)) (ht : (pc : Int) + off = (tgt : Int)) (hp : pc + 3 = pc') (ha : a < 2 ^ 31) (kt : a = 0 → zE G R QQ own mn cc nL ret n0 tgt L st n mi ml mr) (kf : 0 < a → zE G R QQ own mn cc nL ret n0 pc' L st n mi ml mr) : zE G R QQ own mn cc nL ret n0 pc L (.int (nI a) :: st) n mi ml mr := by
  have hb : 0 < 2 ^ 31 := by decide
  refine e_if_le tgt pc' hd ht hp (fun q => kt ?_) (fun q => kf ?_)
  · rw [← nI_0] at q
    first | (rw [zI_lt hb ha] at q) | (rw [zI_lt ha hb] at q) | (rw [zI_le ha hb] at q) | (rw [zI_le hb ha] at q) | (simp only [ne_eq, zI_eq ha hb] at q)
    first | trivial | omega
  · rw [← nI_0] at q
    first | (rw [zI_lt hb ha] at q) | (rw [zI_lt ha hb] at q) | (rw [zI_le ha hb] at q) | (rw [zI_le hb ha] at q) | (simp only [ne_eq, zI_eq ha hb] at q)
    first | trivial | omega
/-- a value chosen by a test: the two ways meet at pc J with one more operand -/
theorem z_dia {c : Prop} (hc : Decidable c) (pT pF J : Nat) (a b : Value) (hT : c → zE G R QQ own mn cc nL ret n0 J L (a :: st) n mi ml mr → zE G R QQ own mn cc nL ret n0 pT L st n mi ml mr) (hF : ¬ c → zE G R QQ own mn cc nL ret n0 J L (b :: st) n mi ml mr → zE G R QQ own mn cc nL ret n0 pF L st n mi ml mr) (k : zE G R QQ own mn cc nL ret n0 J L ((if c then a else b) :: st) n mi ml mr) : (c → zE G R QQ own mn cc nL ret n0 pT L st n mi ml mr) ∧ (¬ c → zE G R QQ own mn cc nL ret n0 pF L st n mi ml mr) := by
  constructor
  · intro q
    rw [if_pos q] at k
    exact hT q k
  · intro q
    rw [if_neg q] at k
    exact hF q k
end ZROWS2
/-- the answer and the cells behind a method, told outright -/
def zPq (r : Option Value) (mi : zFi) (ml : zFl) (mr : zFr) : zQ := fun r0 a b c => r0 = r ∧ a = mi ∧ b = ml ∧ c = mr
/-- an int, and what holds of it and of the cells -/
def zPi (P : Int32 → zFi → zFl → zFr → Prop) : zQ := fun r0 a b c => ∃ v, r0 = some (.int v) ∧ P v a b c
def zPl (P : Int64 → zFi → zFl → zFr → Prop) : zQ := fun r0 a b c => ∃ v, r0 = some (.long v) ∧ P v a b c
def zPv (P : zFi → zFl → zFr → Prop) : zQ := fun r0 a b c => r0 = none ∧ P a b c
section ZCALL2
variable {G : zG} {QQ : zQQ} {R : Room} {own mn : String} {cc : ByteArray} {nL : Nat} {ret : Option FieldType} {n0 pc : Nat} {L st : List Value} {mi : zFi} {ml : zFl} {mr : zFr}
variable {d np idx nL' : Nat} {y : MethodName} {cc' : ByteArray} {ret' : Option FieldType} {As rest : List Value}
theorem c_Vqi (pc' : Nat) {r0 ci : Nat} {T0 : u_T} {N0 : Nat} {x : Int32} {mi' : zFi} {ml' : zFl} {mr' : zFr} (hd : decode cc pc = .ok (.invokevirtual idx, 3)) (hM : zMet G d y cc' nL' ret' (.ref r0 :: As) 238 mi ml mr 238 (zPq (some (.int x)) mi' ml' mr')) (hl : zML own idx y cc' nL' ret' np) (hin : Cond.instanceMethod y ∈ zT) (hse : Cond.selects y.cls y y ∈ zT) (hcl : vwCl[ci]? = some (y.cls, T0, N0)) (hk : zKD r0 = ci) (hr0 : r0 < 238) (hp : pc + 3 = pc') (hn9 : As.length = np) (hstk : st = As.reverse ++ .ref r0 :: rest) (hW : (rest.map fun v => v.category).sum ≤ 8) (hR1 : d + 1 ≤ R.frames) (hR2 : 8 + (nL' + 11) + 40 * d ≤ R.locals) (hc : 238 - n0 ≤ R.cells) (hs : zSl 238 - zSl n0 ≤ R.slots) (k : zE G R QQ own mn cc nL ret n0 pc' L (.int x :: rest) 238 mi' ml' mr') : zE G R QQ own mn cc nL ret n0 pc L st 238 mi ml mr := by
  subst hp
  refine e_callV hd hM hl hin hse hcl hk hr0 hn9 hstk hW hR1 hR2 (Nat.le_refl _) (by decide) hc hs ?_
  rintro _ _ _ _ ⟨rfl, rfl, rfl, rfl⟩
  exact k
theorem c_Vql (pc' : Nat) {r0 ci : Nat} {T0 : u_T} {N0 : Nat} {x : Int64} {mi' : zFi} {ml' : zFl} {mr' : zFr} (hd : decode cc pc = .ok (.invokevirtual idx, 3)) (hM : zMet G d y cc' nL' ret' (.ref r0 :: As) 238 mi ml mr 238 (zPq (some (.long x)) mi' ml' mr')) (hl : zML own idx y cc' nL' ret' np) (hin : Cond.instanceMethod y ∈ zT) (hse : Cond.selects y.cls y y ∈ zT) (hcl : vwCl[ci]? = some (y.cls, T0, N0)) (hk : zKD r0 = ci) (hr0 : r0 < 238) (hp : pc + 3 = pc') (hn9 : As.length = np) (hstk : st = As.reverse ++ .ref r0 :: rest) (hW : (rest.map fun v => v.category).sum ≤ 8) (hR1 : d + 1 ≤ R.frames) (hR2 : 8 + (nL' + 11) + 40 * d ≤ R.locals) (hc : 238 - n0 ≤ R.cells) (hs : zSl 238 - zSl n0 ≤ R.slots) (k : zE G R QQ own mn cc nL ret n0 pc' L (.long x :: rest) 238 mi' ml' mr') : zE G R QQ own mn cc nL ret n0 pc L st 238 mi ml mr := by
  subst hp
  refine e_callV hd hM hl hin hse hcl hk hr0 hn9 hstk hW hR1 hR2 (Nat.le_refl _) (by decide) hc hs ?_
  rintro _ _ _ _ ⟨rfl, rfl, rfl, rfl⟩
  exact k
theorem c_Vqv (pc' : Nat) {r0 ci : Nat} {T0 : u_T} {N0 : Nat} {mi' : zFi} {ml' : zFl} {mr' : zFr} (hd : decode cc pc = .ok (.invokevirtual idx, 3)) (hM : zMet G d y cc' nL' ret' (.ref r0 :: As) 238 mi ml mr 238 (zPq none mi' ml' mr')) (hl : zML own idx y cc' nL' ret' np) (hin : Cond.instanceMethod y ∈ zT) (hse : Cond.selects y.cls y y ∈ zT) (hcl : vwCl[ci]? = some (y.cls, T0, N0)) (hk : zKD r0 = ci) (hr0 : r0 < 238) (hp : pc + 3 = pc') (hn9 : As.length = np) (hstk : st = As.reverse ++ .ref r0 :: rest) (hW : (rest.map fun v => v.category).sum ≤ 8) (hR1 : d + 1 ≤ R.frames) (hR2 : 8 + (nL' + 11) + 40 * d ≤ R.locals) (hc : 238 - n0 ≤ R.cells) (hs : zSl 238 - zSl n0 ≤ R.slots) (k : zE G R QQ own mn cc nL ret n0 pc' L rest 238 mi' ml' mr') : zE G R QQ own mn cc nL ret n0 pc L st 238 mi ml mr := by
  subst hp
  refine e_callV hd hM hl hin hse hcl hk hr0 hn9 hstk hW hR1 hR2 (Nat.le_refl _) (by decide) hc hs ?_
  rintro _ _ _ _ ⟨rfl, rfl, rfl, rfl⟩
  exact k
theorem c_Vq (pc' : Nat) {r0 ci : Nat} {T0 : u_T} {N0 : Nat} {r : Option Value} {mi' : zFi} {ml' : zFl} {mr' : zFr} (hd : decode cc pc = .ok (.invokevirtual idx, 3)) (hM : zMet G d y cc' nL' ret' (.ref r0 :: As) 238 mi ml mr 238 (zPq r mi' ml' mr')) (hl : zML own idx y cc' nL' ret' np) (hin : Cond.instanceMethod y ∈ zT) (hse : Cond.selects y.cls y y ∈ zT) (hcl : vwCl[ci]? = some (y.cls, T0, N0)) (hk : zKD r0 = ci) (hr0 : r0 < 238) (hp : pc + 3 = pc') (hn9 : As.length = np) (hstk : st = As.reverse ++ .ref r0 :: rest) (hW : (rest.map fun v => v.category).sum ≤ 8) (hR1 : d + 1 ≤ R.frames) (hR2 : 8 + (nL' + 11) + 40 * d ≤ R.locals) (hc : 238 - n0 ≤ R.cells) (hs : zSl 238 - zSl n0 ≤ R.slots) (k : zE G R QQ own mn cc nL ret n0 pc' L (r.toList ++ rest) 238 mi' ml' mr') : zE G R QQ own mn cc nL ret n0 pc L st 238 mi ml mr := by
  subst hp
  refine e_callV hd hM hl hin hse hcl hk hr0 hn9 hstk hW hR1 hR2 (Nat.le_refl _) (by decide) hc hs ?_
  rintro _ _ _ _ ⟨rfl, rfl, rfl, rfl⟩
  exact k
theorem c_Vi (pc' : Nat) {r0 ci : Nat} {T0 : u_T} {N0 : Nat} {P : Int32 → zFi → zFl → zFr → Prop} (hd : decode cc pc = .ok (.invokevirtual idx, 3)) (hM : zMet G d y cc' nL' ret' (.ref r0 :: As) 238 mi ml mr 238 (zPi P)) (hl : zML own idx y cc' nL' ret' np) (hin : Cond.instanceMethod y ∈ zT) (hse : Cond.selects y.cls y y ∈ zT) (hcl : vwCl[ci]? = some (y.cls, T0, N0)) (hk : zKD r0 = ci) (hr0 : r0 < 238) (hp : pc + 3 = pc') (hn9 : As.length = np) (hstk : st = As.reverse ++ .ref r0 :: rest) (hW : (rest.map fun v => v.category).sum ≤ 8) (hR1 : d + 1 ≤ R.frames) (hR2 : 8 + (nL' + 11) + 40 * d ≤ R.locals) (hc : 238 - n0 ≤ R.cells) (hs : zSl 238 - zSl n0 ≤ R.slots) (k : ∀ v mi' ml' mr', P v mi' ml' mr' → zE G R QQ own mn cc nL ret n0 pc' L (.int v :: rest) 238 mi' ml' mr') : zE G R QQ own mn cc nL ret n0 pc L st 238 mi ml mr := by
  subst hp
  refine e_callV hd hM hl hin hse hcl hk hr0 hn9 hstk hW hR1 hR2 (Nat.le_refl _) (by decide) hc hs ?_
  rintro _ mi' ml' mr' ⟨v, rfl, h⟩
  exact k v mi' ml' mr' h
theorem c_Vl (pc' : Nat) {r0 ci : Nat} {T0 : u_T} {N0 : Nat} {P : Int64 → zFi → zFl → zFr → Prop} (hd : decode cc pc = .ok (.invokevirtual idx, 3)) (hM : zMet G d y cc' nL' ret' (.ref r0 :: As) 238 mi ml mr 238 (zPl P)) (hl : zML own idx y cc' nL' ret' np) (hin : Cond.instanceMethod y ∈ zT) (hse : Cond.selects y.cls y y ∈ zT) (hcl : vwCl[ci]? = some (y.cls, T0, N0)) (hk : zKD r0 = ci) (hr0 : r0 < 238) (hp : pc + 3 = pc') (hn9 : As.length = np) (hstk : st = As.reverse ++ .ref r0 :: rest) (hW : (rest.map fun v => v.category).sum ≤ 8) (hR1 : d + 1 ≤ R.frames) (hR2 : 8 + (nL' + 11) + 40 * d ≤ R.locals) (hc : 238 - n0 ≤ R.cells) (hs : zSl 238 - zSl n0 ≤ R.slots) (k : ∀ v mi' ml' mr', P v mi' ml' mr' → zE G R QQ own mn cc nL ret n0 pc' L (.long v :: rest) 238 mi' ml' mr') : zE G R QQ own mn cc nL ret n0 pc L st 238 mi ml mr := by
  subst hp
  refine e_callV hd hM hl hin hse hcl hk hr0 hn9 hstk hW hR1 hR2 (Nat.le_refl _) (by decide) hc hs ?_
  rintro _ mi' ml' mr' ⟨v, rfl, h⟩
  exact k v mi' ml' mr' h
theorem c_Vv (pc' : Nat) {r0 ci : Nat} {T0 : u_T} {N0 : Nat} {P : zFi → zFl → zFr → Prop} (hd : decode cc pc = .ok (.invokevirtual idx, 3)) (hM : zMet G d y cc' nL' ret' (.ref r0 :: As) 238 mi ml mr 238 (zPv P)) (hl : zML own idx y cc' nL' ret' np) (hin : Cond.instanceMethod y ∈ zT) (hse : Cond.selects y.cls y y ∈ zT) (hcl : vwCl[ci]? = some (y.cls, T0, N0)) (hk : zKD r0 = ci) (hr0 : r0 < 238) (hp : pc + 3 = pc') (hn9 : As.length = np) (hstk : st = As.reverse ++ .ref r0 :: rest) (hW : (rest.map fun v => v.category).sum ≤ 8) (hR1 : d + 1 ≤ R.frames) (hR2 : 8 + (nL' + 11) + 40 * d ≤ R.locals) (hc : 238 - n0 ≤ R.cells) (hs : zSl 238 - zSl n0 ≤ R.slots) (k : ∀ mi' ml' mr', P mi' ml' mr' → zE G R QQ own mn cc nL ret n0 pc' L rest 238 mi' ml' mr') : zE G R QQ own mn cc nL ret n0 pc L st 238 mi ml mr := by
  subst hp
  refine e_callV hd hM hl hin hse hcl hk hr0 hn9 hstk hW hR1 hR2 (Nat.le_refl _) (by decide) hc hs ?_
  rintro _ mi' ml' mr' ⟨rfl, h⟩
  exact k mi' ml' mr' h
theorem c_Sqi (pc' : Nat) {x : Int32} {mi' : zFi} {ml' : zFl} {mr' : zFr} (hd : decode cc pc = .ok (.invokestatic idx, 3)) (hM : zMet G d y cc' nL' ret' As 238 mi ml mr 238 (zPq (some (.int x)) mi' ml' mr')) (hl : zML own idx y cc' nL' ret' np) (hst : Cond.static y ∈ zT) (hp : pc + 3 = pc') (hn9 : As.length = np) (hstk : st = As.reverse ++ rest) (hW : (rest.map fun v => v.category).sum ≤ 8) (hR1 : d + 1 ≤ R.frames) (hR2 : 8 + (nL' + 11) + 40 * d ≤ R.locals) (hc : 238 - n0 ≤ R.cells) (hs : zSl 238 - zSl n0 ≤ R.slots) (k : zE G R QQ own mn cc nL ret n0 pc' L (.int x :: rest) 238 mi' ml' mr') : zE G R QQ own mn cc nL ret n0 pc L st 238 mi ml mr := by
  subst hp
  refine e_callS hd hM hl hst hn9 hstk hW hR1 hR2 (Nat.le_refl _) (by decide) hc hs ?_
  rintro _ _ _ _ ⟨rfl, rfl, rfl, rfl⟩
  exact k
theorem c_Sql (pc' : Nat) {x : Int64} {mi' : zFi} {ml' : zFl} {mr' : zFr} (hd : decode cc pc = .ok (.invokestatic idx, 3)) (hM : zMet G d y cc' nL' ret' As 238 mi ml mr 238 (zPq (some (.long x)) mi' ml' mr')) (hl : zML own idx y cc' nL' ret' np) (hst : Cond.static y ∈ zT) (hp : pc + 3 = pc') (hn9 : As.length = np) (hstk : st = As.reverse ++ rest) (hW : (rest.map fun v => v.category).sum ≤ 8) (hR1 : d + 1 ≤ R.frames) (hR2 : 8 + (nL' + 11) + 40 * d ≤ R.locals) (hc : 238 - n0 ≤ R.cells) (hs : zSl 238 - zSl n0 ≤ R.slots) (k : zE G R QQ own mn cc nL ret n0 pc' L (.long x :: rest) 238 mi' ml' mr') : zE G R QQ own mn cc nL ret n0 pc L st 238 mi ml mr := by
  subst hp
  refine e_callS hd hM hl hst hn9 hstk hW hR1 hR2 (Nat.le_refl _) (by decide) hc hs ?_
  rintro _ _ _ _ ⟨rfl, rfl, rfl, rfl⟩
  exact k
theorem c_Sqv (pc' : Nat) {mi' : zFi} {ml' : zFl} {mr' : zFr} (hd : decode cc pc = .ok (.invokestatic idx, 3)) (hM : zMet G d y cc' nL' ret' As 238 mi ml mr 238 (zPq none mi' ml' mr')) (hl : zML own idx y cc' nL' ret' np) (hst : Cond.static y ∈ zT) (hp : pc + 3 = pc') (hn9 : As.length = np) (hstk : st = As.reverse ++ rest) (hW : (rest.map fun v => v.category).sum ≤ 8) (hR1 : d + 1 ≤ R.frames) (hR2 : 8 + (nL' + 11) + 40 * d ≤ R.locals) (hc : 238 - n0 ≤ R.cells) (hs : zSl 238 - zSl n0 ≤ R.slots) (k : zE G R QQ own mn cc nL ret n0 pc' L rest 238 mi' ml' mr') : zE G R QQ own mn cc nL ret n0 pc L st 238 mi ml mr := by
  subst hp
  refine e_callS hd hM hl hst hn9 hstk hW hR1 hR2 (Nat.le_refl _) (by decide) hc hs ?_
  rintro _ _ _ _ ⟨rfl, rfl, rfl, rfl⟩
  exact k
theorem c_Sq (pc' : Nat) {r : Option Value} {mi' : zFi} {ml' : zFl} {mr' : zFr} (hd : decode cc pc = .ok (.invokestatic idx, 3)) (hM : zMet G d y cc' nL' ret' As 238 mi ml mr 238 (zPq r mi' ml' mr')) (hl : zML own idx y cc' nL' ret' np) (hst : Cond.static y ∈ zT) (hp : pc + 3 = pc') (hn9 : As.length = np) (hstk : st = As.reverse ++ rest) (hW : (rest.map fun v => v.category).sum ≤ 8) (hR1 : d + 1 ≤ R.frames) (hR2 : 8 + (nL' + 11) + 40 * d ≤ R.locals) (hc : 238 - n0 ≤ R.cells) (hs : zSl 238 - zSl n0 ≤ R.slots) (k : zE G R QQ own mn cc nL ret n0 pc' L (r.toList ++ rest) 238 mi' ml' mr') : zE G R QQ own mn cc nL ret n0 pc L st 238 mi ml mr := by
  subst hp
  refine e_callS hd hM hl hst hn9 hstk hW hR1 hR2 (Nat.le_refl _) (by decide) hc hs ?_
  rintro _ _ _ _ ⟨rfl, rfl, rfl, rfl⟩
  exact k
theorem c_Si (pc' : Nat) {P : Int32 → zFi → zFl → zFr → Prop} (hd : decode cc pc = .ok (.invokestatic idx, 3)) (hM : zMet G d y cc' nL' ret' As 238 mi ml mr 238 (zPi P)) (hl : zML own idx y cc' nL' ret' np) (hst : Cond.static y ∈ zT) (hp : pc + 3 = pc') (hn9 : As.length = np) (hstk : st = As.reverse ++ rest) (hW : (rest.map fun v => v.category).sum ≤ 8) (hR1 : d + 1 ≤ R.frames) (hR2 : 8 + (nL' + 11) + 40 * d ≤ R.locals) (hc : 238 - n0 ≤ R.cells) (hs : zSl 238 - zSl n0 ≤ R.slots) (k : ∀ v mi' ml' mr', P v mi' ml' mr' → zE G R QQ own mn cc nL ret n0 pc' L (.int v :: rest) 238 mi' ml' mr') : zE G R QQ own mn cc nL ret n0 pc L st 238 mi ml mr := by
  subst hp
  refine e_callS hd hM hl hst hn9 hstk hW hR1 hR2 (Nat.le_refl _) (by decide) hc hs ?_
  rintro _ mi' ml' mr' ⟨v, rfl, h⟩
  exact k v mi' ml' mr' h
theorem c_Sl (pc' : Nat) {P : Int64 → zFi → zFl → zFr → Prop} (hd : decode cc pc = .ok (.invokestatic idx, 3)) (hM : zMet G d y cc' nL' ret' As 238 mi ml mr 238 (zPl P)) (hl : zML own idx y cc' nL' ret' np) (hst : Cond.static y ∈ zT) (hp : pc + 3 = pc') (hn9 : As.length = np) (hstk : st = As.reverse ++ rest) (hW : (rest.map fun v => v.category).sum ≤ 8) (hR1 : d + 1 ≤ R.frames) (hR2 : 8 + (nL' + 11) + 40 * d ≤ R.locals) (hc : 238 - n0 ≤ R.cells) (hs : zSl 238 - zSl n0 ≤ R.slots) (k : ∀ v mi' ml' mr', P v mi' ml' mr' → zE G R QQ own mn cc nL ret n0 pc' L (.long v :: rest) 238 mi' ml' mr') : zE G R QQ own mn cc nL ret n0 pc L st 238 mi ml mr := by
  subst hp
  refine e_callS hd hM hl hst hn9 hstk hW hR1 hR2 (Nat.le_refl _) (by decide) hc hs ?_
  rintro _ mi' ml' mr' ⟨v, rfl, h⟩
  exact k v mi' ml' mr' h
theorem c_Sv (pc' : Nat) {P : zFi → zFl → zFr → Prop} (hd : decode cc pc = .ok (.invokestatic idx, 3)) (hM : zMet G d y cc' nL' ret' As 238 mi ml mr 238 (zPv P)) (hl : zML own idx y cc' nL' ret' np) (hst : Cond.static y ∈ zT) (hp : pc + 3 = pc') (hn9 : As.length = np) (hstk : st = As.reverse ++ rest) (hW : (rest.map fun v => v.category).sum ≤ 8) (hR1 : d + 1 ≤ R.frames) (hR2 : 8 + (nL' + 11) + 40 * d ≤ R.locals) (hc : 238 - n0 ≤ R.cells) (hs : zSl 238 - zSl n0 ≤ R.slots) (k : ∀ mi' ml' mr', P mi' ml' mr' → zE G R QQ own mn cc nL ret n0 pc' L rest 238 mi' ml' mr') : zE G R QQ own mn cc nL ret n0 pc L st 238 mi ml mr := by
  subst hp
  refine e_callS hd hM hl hst hn9 hstk hW hR1 hR2 (Nat.le_refl _) (by decide) hc hs ?_
  rintro _ mi' ml' mr' ⟨rfl, h⟩
  exact k mi' ml' mr' h
end ZCALL2
