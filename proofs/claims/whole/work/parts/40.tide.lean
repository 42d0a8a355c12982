/-! bits -/
theorem nI_bits {z : Int32} {v : Nat} (h : ∀ i, i < 32 → z.toBitVec.getLsbD i = v.testBit i) : z = nI v := by
  apply Int32.toBitVec_inj.mp
  apply BitVec.eq_of_getLsbD_eq
  intro i hi
  rw [h i hi]
  show _ = (BitVec.ofNat 32 v).getLsbD i
  rw [BitVec.getLsbD_ofNat]
  simp [hi]
theorem nI_bit {a i : Nat} (hi : i < 32) : (nI a).toBitVec.getLsbD i = a.testBit i := by
  show (BitVec.ofNat 32 a).getLsbD i = _
  rw [BitVec.getLsbD_ofNat]
  simp [hi]
theorem tb0 {n : Nat} : n.testBit 0 = decide (n % 2 = 1) := Nat.testBit_zero n
theorem tbS {n i : Nat} : n.testBit (i + 1) = (n / 2).testBit i := Nat.testBit_succ n i
def bN (b : Bool) : Nat := if b then 1 else 0
theorem bN_le (b : Bool) : bN b ≤ 1 := by cases b <;> decide
def bvN : List Bool → Nat
  | [] => 0
  | b :: t => 2 * bvN t + bN b
theorem bvN_lt : ∀ st : List Bool, bvN st < 2 ^ st.length
  | [] => by decide
  | b :: t => by
    have h1 := bvN_lt t
    have h2 := bN_le b
    show 2 * bvN t + bN b < 2 ^ (t.length + 1)
    rw [Nat.pow_succ]
    omega
theorem bv_31 {st : List Bool} (h : st.length ≤ 30) : bvN st < 2 ^ 30 := Nat.lt_of_lt_of_le (bvN_lt st) (Nat.pow_le_pow_right (by decide) h)
theorem b_or1 {a : Nat} {b : Bool} : nI (a * 2) ||| nI (bN b) = nI (2 * a + bN b) := by
  have hb := bN_le b
  apply nI_bits
  intro i hi
  rw [Int32.toBitVec_or, BitVec.getLsbD_or, nI_bit hi, nI_bit hi]
  cases i with
  | zero =>
    rw [tb0, tb0, tb0, show a * 2 % 2 = 0 by omega, show (2 * a + bN b) % 2 = bN b % 2 by omega]
    simp
  | succ i =>
    rw [tbS, tbS, tbS, show a * 2 / 2 = a by omega, show bN b / 2 = 0 by omega, show (2 * a + bN b) / 2 = a by omega]
    simp
theorem b_xor {a : Nat} {b : Bool} : nI (2 * a + bN b) ^^^ 1 = nI (2 * a + bN (!b)) := by
  apply nI_bits
  intro i hi
  rw [show (1 : Int32) = nI 1 from rfl, Int32.toBitVec_xor, BitVec.getLsbD_xor, nI_bit hi, nI_bit hi]
  cases i with
  | zero =>
    rw [tb0, tb0, tb0]
    cases b <;> simp [bN]
  | succ i =>
    have h1 := bN_le b
    have h2 := bN_le (!b)
    rw [tbS, tbS, tbS, show (2 * a + bN b) / 2 = a by omega, show 1 / 2 = 0 by omega, show (2 * a + bN (!b)) / 2 = a by omega]
    simp
theorem b_and {a : Nat} {b c : Bool} : nI (2 * a + bN c) &&& (nI (2 * (2 * a + bN c) + bN b) ||| (-2)) = nI (2 * a + bN (c && b)) := by
  apply nI_bits
  intro i hi
  rw [Int32.toBitVec_and, Int32.toBitVec_or, BitVec.getLsbD_and, BitVec.getLsbD_or, nI_bit hi, nI_bit hi]
  have hm : ∀ i, i < 32 → ((-2 : Int32).toBitVec).getLsbD i = decide (0 < i) := by decide
  rw [hm i hi]
  cases i with
  | zero =>
    rw [tb0, tb0, tb0]
    cases b <;> cases c <;> simp [bN]
  | succ i =>
    have h1 := bN_le c
    have h2 := bN_le (c && b)
    rw [tbS, tbS, tbS, show (2 * a + bN c) / 2 = a by omega, show (2 * a + bN (c && b)) / 2 = a by omega]
    simp
theorem b_or {a : Nat} {b c : Bool} : nI (2 * a + bN c) ||| (nI (2 * (2 * a + bN c) + bN b) &&& 1) = nI (2 * a + bN (c || b)) := by
  apply nI_bits
  intro i hi
  rw [show (1 : Int32) = nI 1 from rfl, Int32.toBitVec_or, Int32.toBitVec_and, BitVec.getLsbD_or, BitVec.getLsbD_and, nI_bit hi, nI_bit hi, nI_bit hi]
  cases i with
  | zero =>
    rw [tb0, tb0, tb0, tb0]
    cases b <;> cases c <;> simp [bN]
  | succ i =>
    have h1 := bN_le c
    have h2 := bN_le (c || b)
    rw [tbS, tbS, tbS, tbS, show (2 * a + bN c) / 2 = a by omega, show 1 / 2 = 0 by omega, show (2 * a + bN (c || b)) / 2 = a by omega]
    simp
theorem b_sh {a : Nat} {b : Bool} (h : 2 * a + bN b < 2 ^ 31) : nI (2 * a + bN b) >>> ((1 : Int32) &&& 31) = nI a := by
  have := bN_le b
  rw [pk_shrN h _ 1 (by decide), show (2 * a + bN b) / 2 ^ 1 = a by omega]
theorem b_lo {b : Bool} : nI (2 * 0 + bN b) &&& 1 = nI (bN b) := by cases b <;> decide
/-- the tide of an hour: 1 and LEVEL and 16 times WAVE -/
def tdV (tm : Nat) (Q : pP) : Int32 := nI (1 + kN (lvl tm Q) + 16 * kN (wav tm Q))
theorem lv_eq (n : Int32) : (if 0 < (if n < 9 then n else 9) then (if n < 9 then n else 9) else 0) = (if n < 0 then 0 else if n ≤ 9 then n else 9) := by
  have e9 : (9 : Int32).toInt = 9 := by decide
  have e0 : (0 : Int32).toInt = 0 := by decide
  by_cases a : n < 9
  · rw [if_pos a]
    have a' := Int32.lt_iff_toInt_lt.mp a
    by_cases b : 0 < n
    · have b' := Int32.lt_iff_toInt_lt.mp b
      rw [if_pos b, if_neg (fun z => by have := Int32.lt_iff_toInt_lt.mp z; omega), if_pos (Int32.le_iff_toInt_le.mpr (by omega))]
    · rw [if_neg b]
      by_cases c : n < 0
      · rw [if_pos c]
      · rw [if_neg c, if_pos (Int32.le_iff_toInt_le.mpr (by omega))]
        rw [Int32.lt_iff_toInt_lt] at b c
        exact Int32.toInt_inj.mp (by omega)
  · rw [if_neg a, if_pos (show (0 : Int32) < 9 by decide)]
    rw [Int32.lt_iff_toInt_lt] at a
    rw [if_neg (fun z => by have := Int32.lt_iff_toInt_lt.mp z; omega)]
    by_cases c : n ≤ 9
    · rw [if_pos c]
      have := Int32.le_iff_toInt_le.mp c
      exact Int32.toInt_inj.mp (by omega)
    · rw [if_neg c]
theorem p10_eq (w : Int32) : (if w < 10 then w else 10) = p10 w := by
  have e0 : (10 : Int32).toInt = 10 := by decide
  unfold p10
  by_cases a : w < 10
  · have := Int32.lt_iff_toInt_lt.mp a
    rw [if_pos a, if_pos (Int32.le_iff_toInt_le.mpr (by omega))]
  · rw [if_neg a]
    by_cases b : w ≤ 10
    · rw [if_pos b]
      rw [Int32.lt_iff_toInt_lt] at a
      have := Int32.le_iff_toInt_le.mp b
      exact Int32.toInt_inj.mp (by omega)
    · rw [if_neg b]
theorem td_eq {tm : Nat} {Q : pP} {lev wv : Int32} (hw : wfp 0 Q) (hl : Q.length ≤ 140) (e1 : lev = absI (nI (tm % 12) - 6) + (evL tm Q).1) (e2 : wv = (evL tm Q).2) : 1 + (if 0 < (if lev < 9 then lev else 9) then (if lev < 9 then lev else 9) else 0) + 16 * (if wv < 10 then wv else 10) = tdV tm Q := by
  rw [lv_eq, p10_eq, e1, e2]
  show 1 + lvl tm Q + 16 * wav tm Q = _
  obtain ⟨a, -, ha, ea⟩ := lvl_rng tm Q
  obtain ⟨b, -, hb, eb⟩ := wav_rng (tm := tm) hw hl
  unfold tdV
  rw [ea, eb, kN_nI (by omega), kN_nI (by omega), show (16 : Int32) * nI b = nI (16 * b) from pk_mul 16 b, show (1 : Int32) + nI a = nI (1 + a) from nI_add 1 a, nI_add]
theorem mR {X : zX} {d : Nat} (hr : zXr X = rmz d) (h : 1 ≤ d) : 1 ≤ X.2.2.2.2.frames ∧ 26 ≤ X.2.2.2.2.locals := by
  show 1 ≤ (zXr X).frames ∧ 26 ≤ (zXr X).locals
  rw [hr]
  exact ⟨h, by show 26 ≤ 64 * d; omega⟩
theorem mR2 {X : zX} {d : Nat} (hr : zXr X = rmz d) (h : 1 ≤ d) : 1 ≤ X.2.2.2.2.frames ∧ 21 ≤ X.2.2.2.2.locals := by
  have := mR hr h
  exact ⟨this.1, by omega⟩
theorem abs_eq (x : Int32) : (if 0 ≤ x then x else 0 - x) = absI x := by
  unfold absI
  by_cases h : x < 0
  · rw [if_pos h, if_neg (Int32.not_le.mpr h), Int32.zero_sub]
  · rw [if_neg h, if_pos (Int32.not_lt.mp h)]
/-- steps and numbers of a text -/
def qI (sf nf : Nat → Int32) (Q : pP) : Prop := Q.length ≤ 100 ∧ wfp 0 Q ∧ ∀ i (h : i < Q.length), sf i = nI Q[i].1 ∧ nf i = nI Q[i].2
theorem dX1_makeTide_0 : decode cX1_makeTide 0 = .ok (.iload_n 1, 1) := by decide +kernel
theorem dX1_makeTide_1 : decode cX1_makeTide 1 = .ok (.ifCond .lt 10, 3) := by decide +kernel
theorem dX1_makeTide_4 : decode cX1_makeTide 4 = .ok (.iload_n 1, 1) := by decide +kernel
theorem dX1_makeTide_5 : decode cX1_makeTide 5 = .ok (.sipush 840, 3) := by decide +kernel
theorem dX1_makeTide_8 : decode cX1_makeTide 8 = .ok (.if_icmp .lt 4, 3) := by decide +kernel
theorem dX1_makeTide_11 : decode cX1_makeTide 11 = .ok (.return_, 1) := by decide +kernel
theorem dX1_makeTide_12 : decode cX1_makeTide 12 = .ok (.iload_n 1, 1) := by decide +kernel
theorem dX1_makeTide_13 : decode cX1_makeTide 13 = .ok (.bipush 12, 2) := by decide +kernel
theorem dX1_makeTide_15 : decode cX1_makeTide 15 = .ok (.irem, 1) := by decide +kernel
theorem dX1_makeTide_16 : decode cX1_makeTide 16 = .ok (.istore_n 2, 1) := by decide +kernel
theorem dX1_makeTide_17 : decode cX1_makeTide 17 = .ok (.iload_n 1, 1) := by decide +kernel
theorem dX1_makeTide_18 : decode cX1_makeTide 18 = .ok (.bipush 12, 2) := by decide +kernel
theorem dX1_makeTide_20 : decode cX1_makeTide 20 = .ok (.idiv, 1) := by decide +kernel
theorem dX1_makeTide_21 : decode cX1_makeTide 21 = .ok (.bipush 14, 2) := by decide +kernel
theorem dX1_makeTide_23 : decode cX1_makeTide 23 = .ok (.irem, 1) := by decide +kernel
theorem dX1_makeTide_24 : decode cX1_makeTide 24 = .ok (.istore_n 3, 1) := by decide +kernel
theorem dX1_makeTide_25 : decode cX1_makeTide 25 = .ok (.iload_n 1, 1) := by decide +kernel
theorem dX1_makeTide_26 : decode cX1_makeTide 26 = .ok (.iconst 5, 1) := by decide +kernel
theorem dX1_makeTide_27 : decode cX1_makeTide 27 = .ok (.irem, 1) := by decide +kernel
theorem dX1_makeTide_28 : decode cX1_makeTide 28 = .ok (.istore 4, 2) := by decide +kernel
theorem dX1_makeTide_30 : decode cX1_makeTide 30 = .ok (.iload_n 2, 1) := by decide +kernel
theorem dX1_makeTide_31 : decode cX1_makeTide 31 = .ok (.bipush 6, 2) := by decide +kernel
theorem dX1_makeTide_33 : decode cX1_makeTide 33 = .ok (.isub, 1) := by decide +kernel
theorem dX1_makeTide_34 : decode cX1_makeTide 34 = .ok (.invokestatic 48, 3) := by decide +kernel
theorem dX1_makeTide_37 : decode cX1_makeTide 37 = .ok (.istore 5, 2) := by decide +kernel
theorem dX1_makeTide_39 : decode cX1_makeTide 39 = .ok (.iconst 0, 1) := by decide +kernel
theorem dX1_makeTide_40 : decode cX1_makeTide 40 = .ok (.istore 6, 2) := by decide +kernel
theorem dX1_makeTide_42 : decode cX1_makeTide 42 = .ok (.iconst 0, 1) := by decide +kernel
theorem dX1_makeTide_43 : decode cX1_makeTide 43 = .ok (.istore 7, 2) := by decide +kernel
theorem dX1_makeTide_45 : decode cX1_makeTide 45 = .ok (.iconst 0, 1) := by decide +kernel
theorem dX1_makeTide_46 : decode cX1_makeTide 46 = .ok (.istore 8, 2) := by decide +kernel
theorem dX1_makeTide_48 : decode cX1_makeTide 48 = .ok (.iload 8, 2) := by decide +kernel
theorem dX1_makeTide_50 : decode cX1_makeTide 50 = .ok (.aload_n 0, 1) := by decide +kernel
theorem dX1_makeTide_51 : decode cX1_makeTide 51 = .ok (.getfield 18, 3) := by decide +kernel
theorem dX1_makeTide_54 : decode cX1_makeTide 54 = .ok (.if_icmp .ge 221, 3) := by decide +kernel
theorem dX1_makeTide_57 : decode cX1_makeTide 57 = .ok (.iload 8, 2) := by decide +kernel
theorem dX1_makeTide_59 : decode cX1_makeTide 59 = .ok (.bipush 100, 2) := by decide +kernel
theorem dX1_makeTide_61 : decode cX1_makeTide 61 = .ok (.if_icmp .ge 214, 3) := by decide +kernel
theorem dX1_makeTide_64 : decode cX1_makeTide 64 = .ok (.aload_n 0, 1) := by decide +kernel
theorem dX1_makeTide_65 : decode cX1_makeTide 65 = .ok (.getfield 11, 3) := by decide +kernel
theorem dX1_makeTide_68 : decode cX1_makeTide 68 = .ok (.iload 8, 2) := by decide +kernel
theorem dX1_makeTide_70 : decode cX1_makeTide 70 = .ok (.iaload, 1) := by decide +kernel
theorem dX1_makeTide_71 : decode cX1_makeTide 71 = .ok (.istore 9, 2) := by decide +kernel
theorem dX1_makeTide_73 : decode cX1_makeTide 73 = .ok (.aload_n 0, 1) := by decide +kernel
theorem dX1_makeTide_74 : decode cX1_makeTide 74 = .ok (.getfield 15, 3) := by decide +kernel
theorem dX1_makeTide_77 : decode cX1_makeTide 77 = .ok (.iload 8, 2) := by decide +kernel
theorem dX1_makeTide_79 : decode cX1_makeTide 79 = .ok (.iaload, 1) := by decide +kernel
theorem dX1_makeTide_80 : decode cX1_makeTide 80 = .ok (.istore 10, 2) := by decide +kernel
theorem dX1_makeTide_82 : decode cX1_makeTide 82 = .ok (.iload 9, 2) := by decide +kernel
theorem dX1_makeTide_84 : decode cX1_makeTide 84 = .ok (.bipush 9, 2) := by decide +kernel
theorem dX1_makeTide_86 : decode cX1_makeTide 86 = .ok (.if_icmp .ge 63, 3) := by decide +kernel
theorem dX1_makeTide_89 : decode cX1_makeTide 89 = .ok (.iload 9, 2) := by decide +kernel
theorem dX1_makeTide_91 : decode cX1_makeTide 91 = .ok (.iconst 3, 1) := by decide +kernel
theorem dX1_makeTide_92 : decode cX1_makeTide 92 = .ok (.if_icmp .ge 7, 3) := by decide +kernel
theorem dX1_makeTide_95 : decode cX1_makeTide 95 = .ok (.iload_n 2, 1) := by decide +kernel
theorem dX1_makeTide_96 : decode cX1_makeTide 96 = .ok (.goto 16, 3) := by decide +kernel
theorem dX1_makeTide_99 : decode cX1_makeTide 99 = .ok (.iload 9, 2) := by decide +kernel
theorem dX1_makeTide_101 : decode cX1_makeTide 101 = .ok (.bipush 6, 2) := by decide +kernel
theorem dX1_makeTide_103 : decode cX1_makeTide 103 = .ok (.if_icmp .ge 7, 3) := by decide +kernel
theorem dX1_makeTide_106 : decode cX1_makeTide 106 = .ok (.iload_n 3, 1) := by decide +kernel
theorem dX1_makeTide_107 : decode cX1_makeTide 107 = .ok (.goto 5, 3) := by decide +kernel
theorem dX1_makeTide_110 : decode cX1_makeTide 110 = .ok (.iload 4, 2) := by decide +kernel
theorem dX1_makeTide_112 : decode cX1_makeTide 112 = .ok (.istore 11, 2) := by decide +kernel
theorem dX1_makeTide_114 : decode cX1_makeTide 114 = .ok (.iload 11, 2) := by decide +kernel
theorem dX1_makeTide_116 : decode cX1_makeTide 116 = .ok (.iload 10, 2) := by decide +kernel
theorem dX1_makeTide_118 : decode cX1_makeTide 118 = .ok (.invokestatic 52, 3) := by decide +kernel
theorem dX1_makeTide_121 : decode cX1_makeTide 121 = .ok (.iconst 1, 1) := by decide +kernel
theorem dX1_makeTide_122 : decode cX1_makeTide 122 = .ok (.iadd, 1) := by decide +kernel
theorem dX1_makeTide_123 : decode cX1_makeTide 123 = .ok (.istore 12, 2) := by decide +kernel
theorem dX1_makeTide_125 : decode cX1_makeTide 125 = .ok (.iload 7, 2) := by decide +kernel
theorem dX1_makeTide_127 : decode cX1_makeTide 127 = .ok (.iconst 1, 1) := by decide +kernel
theorem dX1_makeTide_128 : decode cX1_makeTide 128 = .ok (.ishl, 1) := by decide +kernel
theorem dX1_makeTide_129 : decode cX1_makeTide 129 = .ok (.iload 12, 2) := by decide +kernel
theorem dX1_makeTide_131 : decode cX1_makeTide 131 = .ok (.iload 9, 2) := by decide +kernel
theorem dX1_makeTide_133 : decode cX1_makeTide 133 = .ok (.iconst 3, 1) := by decide +kernel
theorem dX1_makeTide_134 : decode cX1_makeTide 134 = .ok (.irem, 1) := by decide +kernel
theorem dX1_makeTide_135 : decode cX1_makeTide 135 = .ok (.if_icmp .ne 7, 3) := by decide +kernel
theorem dX1_makeTide_138 : decode cX1_makeTide 138 = .ok (.iconst 1, 1) := by decide +kernel
theorem dX1_makeTide_139 : decode cX1_makeTide 139 = .ok (.goto 4, 3) := by decide +kernel
theorem dX1_makeTide_142 : decode cX1_makeTide 142 = .ok (.iconst 0, 1) := by decide +kernel
theorem dX1_makeTide_143 : decode cX1_makeTide 143 = .ok (.ior, 1) := by decide +kernel
theorem dX1_makeTide_144 : decode cX1_makeTide 144 = .ok (.istore 7, 2) := by decide +kernel
theorem dX1_makeTide_146 : decode cX1_makeTide 146 = .ok (.goto 123, 3) := by decide +kernel
theorem dX1_makeTide_149 : decode cX1_makeTide 149 = .ok (.iload 9, 2) := by decide +kernel
theorem dX1_makeTide_151 : decode cX1_makeTide 151 = .ok (.bipush 9, 2) := by decide +kernel
theorem dX1_makeTide_153 : decode cX1_makeTide 153 = .ok (.if_icmp .ne 12, 3) := by decide +kernel
theorem dX1_makeTide_156 : decode cX1_makeTide 156 = .ok (.iload 7, 2) := by decide +kernel
theorem dX1_makeTide_158 : decode cX1_makeTide 158 = .ok (.iconst 1, 1) := by decide +kernel
theorem dX1_makeTide_159 : decode cX1_makeTide 159 = .ok (.ixor, 1) := by decide +kernel
theorem dX1_makeTide_160 : decode cX1_makeTide 160 = .ok (.istore 7, 2) := by decide +kernel
theorem dX1_makeTide_162 : decode cX1_makeTide 162 = .ok (.goto 107, 3) := by decide +kernel
theorem dX1_makeTide_165 : decode cX1_makeTide 165 = .ok (.iload 9, 2) := by decide +kernel
theorem dX1_makeTide_167 : decode cX1_makeTide 167 = .ok (.bipush 10, 2) := by decide +kernel
theorem dX1_makeTide_169 : decode cX1_makeTide 169 = .ok (.if_icmp .ne 18, 3) := by decide +kernel
theorem dX1_makeTide_172 : decode cX1_makeTide 172 = .ok (.iload 7, 2) := by decide +kernel
theorem dX1_makeTide_174 : decode cX1_makeTide 174 = .ok (.iconst 1, 1) := by decide +kernel
theorem dX1_makeTide_175 : decode cX1_makeTide 175 = .ok (.ishr, 1) := by decide +kernel
theorem dX1_makeTide_176 : decode cX1_makeTide 176 = .ok (.iload 7, 2) := by decide +kernel
theorem dX1_makeTide_178 : decode cX1_makeTide 178 = .ok (.bipush (-2), 2) := by decide +kernel
theorem dX1_makeTide_180 : decode cX1_makeTide 180 = .ok (.ior, 1) := by decide +kernel
theorem dX1_makeTide_181 : decode cX1_makeTide 181 = .ok (.iand, 1) := by decide +kernel
theorem dX1_makeTide_182 : decode cX1_makeTide 182 = .ok (.istore 7, 2) := by decide +kernel
theorem dX1_makeTide_184 : decode cX1_makeTide 184 = .ok (.goto 85, 3) := by decide +kernel
theorem dX1_makeTide_187 : decode cX1_makeTide 187 = .ok (.iload 9, 2) := by decide +kernel
theorem dX1_makeTide_189 : decode cX1_makeTide 189 = .ok (.bipush 11, 2) := by decide +kernel
theorem dX1_makeTide_191 : decode cX1_makeTide 191 = .ok (.if_icmp .ne 17, 3) := by decide +kernel
theorem dX1_makeTide_194 : decode cX1_makeTide 194 = .ok (.iload 7, 2) := by decide +kernel
theorem dX1_makeTide_196 : decode cX1_makeTide 196 = .ok (.iconst 1, 1) := by decide +kernel
theorem dX1_makeTide_197 : decode cX1_makeTide 197 = .ok (.ishr, 1) := by decide +kernel
theorem dX1_makeTide_198 : decode cX1_makeTide 198 = .ok (.iload 7, 2) := by decide +kernel
theorem dX1_makeTide_200 : decode cX1_makeTide 200 = .ok (.iconst 1, 1) := by decide +kernel
theorem dX1_makeTide_201 : decode cX1_makeTide 201 = .ok (.iand, 1) := by decide +kernel
theorem dX1_makeTide_202 : decode cX1_makeTide 202 = .ok (.ior, 1) := by decide +kernel
theorem dX1_makeTide_203 : decode cX1_makeTide 203 = .ok (.istore 7, 2) := by decide +kernel
theorem dX1_makeTide_205 : decode cX1_makeTide 205 = .ok (.goto 64, 3) := by decide +kernel
theorem dX1_makeTide_208 : decode cX1_makeTide 208 = .ok (.iload 7, 2) := by decide +kernel
theorem dX1_makeTide_210 : decode cX1_makeTide 210 = .ok (.iconst 1, 1) := by decide +kernel
theorem dX1_makeTide_211 : decode cX1_makeTide 211 = .ok (.iand, 1) := by decide +kernel
theorem dX1_makeTide_212 : decode cX1_makeTide 212 = .ok (.iload 10, 2) := by decide +kernel
theorem dX1_makeTide_214 : decode cX1_makeTide 214 = .ok (.imul, 1) := by decide +kernel
theorem dX1_makeTide_215 : decode cX1_makeTide 215 = .ok (.istore 11, 2) := by decide +kernel
theorem dX1_makeTide_217 : decode cX1_makeTide 217 = .ok (.iload 5, 2) := by decide +kernel
theorem dX1_makeTide_219 : decode cX1_makeTide 219 = .ok (.iload 9, 2) := by decide +kernel
theorem dX1_makeTide_221 : decode cX1_makeTide 221 = .ok (.bipush 12, 2) := by decide +kernel
theorem dX1_makeTide_223 : decode cX1_makeTide 223 = .ok (.if_icmp .ne 8, 3) := by decide +kernel
theorem dX1_makeTide_226 : decode cX1_makeTide 226 = .ok (.iload 11, 2) := by decide +kernel
theorem dX1_makeTide_228 : decode cX1_makeTide 228 = .ok (.goto 17, 3) := by decide +kernel
theorem dX1_makeTide_231 : decode cX1_makeTide 231 = .ok (.iload 9, 2) := by decide +kernel
theorem dX1_makeTide_233 : decode cX1_makeTide 233 = .ok (.bipush 13, 2) := by decide +kernel
theorem dX1_makeTide_235 : decode cX1_makeTide 235 = .ok (.if_icmp .ne 9, 3) := by decide +kernel
theorem dX1_makeTide_238 : decode cX1_makeTide 238 = .ok (.iload 11, 2) := by decide +kernel
theorem dX1_makeTide_240 : decode cX1_makeTide 240 = .ok (.ineg, 1) := by decide +kernel
theorem dX1_makeTide_241 : decode cX1_makeTide 241 = .ok (.goto 4, 3) := by decide +kernel
theorem dX1_makeTide_244 : decode cX1_makeTide 244 = .ok (.iconst 0, 1) := by decide +kernel
theorem dX1_makeTide_245 : decode cX1_makeTide 245 = .ok (.iadd, 1) := by decide +kernel
theorem dX1_makeTide_246 : decode cX1_makeTide 246 = .ok (.istore 5, 2) := by decide +kernel
theorem dX1_makeTide_248 : decode cX1_makeTide 248 = .ok (.iload 6, 2) := by decide +kernel
theorem dX1_makeTide_250 : decode cX1_makeTide 250 = .ok (.iload 9, 2) := by decide +kernel
theorem dX1_makeTide_252 : decode cX1_makeTide 252 = .ok (.bipush 14, 2) := by decide +kernel
theorem dX1_makeTide_254 : decode cX1_makeTide 254 = .ok (.if_icmp .ne 8, 3) := by decide +kernel
theorem dX1_makeTide_257 : decode cX1_makeTide 257 = .ok (.iload 11, 2) := by decide +kernel
theorem dX1_makeTide_259 : decode cX1_makeTide 259 = .ok (.goto 4, 3) := by decide +kernel
theorem dX1_makeTide_262 : decode cX1_makeTide 262 = .ok (.iconst 0, 1) := by decide +kernel
theorem dX1_makeTide_263 : decode cX1_makeTide 263 = .ok (.iadd, 1) := by decide +kernel
theorem dX1_makeTide_264 : decode cX1_makeTide 264 = .ok (.istore 6, 2) := by decide +kernel
theorem dX1_makeTide_266 : decode cX1_makeTide 266 = .ok (.iconst 0, 1) := by decide +kernel
theorem dX1_makeTide_267 : decode cX1_makeTide 267 = .ok (.istore 7, 2) := by decide +kernel
theorem dX1_makeTide_269 : decode cX1_makeTide 269 = .ok (.iinc 8 1, 3) := by decide +kernel
theorem dX1_makeTide_272 : decode cX1_makeTide 272 = .ok (.goto (-224), 3) := by decide +kernel
theorem dX1_makeTide_275 : decode cX1_makeTide 275 = .ok (.aload_n 0, 1) := by decide +kernel
theorem dX1_makeTide_276 : decode cX1_makeTide 276 = .ok (.getfield 22, 3) := by decide +kernel
theorem dX1_makeTide_279 : decode cX1_makeTide 279 = .ok (.iload_n 1, 1) := by decide +kernel
theorem dX1_makeTide_280 : decode cX1_makeTide 280 = .ok (.iconst 1, 1) := by decide +kernel
theorem dX1_makeTide_281 : decode cX1_makeTide 281 = .ok (.iconst 0, 1) := by decide +kernel
theorem dX1_makeTide_282 : decode cX1_makeTide 282 = .ok (.bipush 9, 2) := by decide +kernel
theorem dX1_makeTide_284 : decode cX1_makeTide 284 = .ok (.iload 5, 2) := by decide +kernel
theorem dX1_makeTide_286 : decode cX1_makeTide 286 = .ok (.invokestatic 57, 3) := by decide +kernel
theorem dX1_makeTide_289 : decode cX1_makeTide 289 = .ok (.invokestatic 60, 3) := by decide +kernel
theorem dX1_makeTide_292 : decode cX1_makeTide 292 = .ok (.iadd, 1) := by decide +kernel
theorem dX1_makeTide_293 : decode cX1_makeTide 293 = .ok (.bipush 16, 2) := by decide +kernel
theorem dX1_makeTide_295 : decode cX1_makeTide 295 = .ok (.bipush 10, 2) := by decide +kernel
theorem dX1_makeTide_297 : decode cX1_makeTide 297 = .ok (.iload 6, 2) := by decide +kernel
theorem dX1_makeTide_299 : decode cX1_makeTide 299 = .ok (.invokestatic 57, 3) := by decide +kernel
theorem dX1_makeTide_302 : decode cX1_makeTide 302 = .ok (.imul, 1) := by decide +kernel
theorem dX1_makeTide_303 : decode cX1_makeTide 303 = .ok (.iadd, 1) := by decide +kernel
theorem dX1_makeTide_304 : decode cX1_makeTide 304 = .ok (.iastore, 1) := by decide +kernel
theorem dX1_makeTide_305 : decode cX1_makeTide 305 = .ok (.return_, 1) := by decide +kernel
theorem tst_b {x : Nat → Nat} {s n : Nat} (hn : n < 2 ^ 30) (hx : x (s / 3) < 2 ^ 30) : ((¬ (if nI n ≤ nI (x (s / 3)) then if nI (x (s / 3)) = nI n then (0 : Int32) else 1 else -1) + 1 = nI (s % 3)) → tst x s n = false) ∧ (((if nI n ≤ nI (x (s / 3)) then if nI (x (s / 3)) = nI n then (0 : Int32) else 1 else -1) + 1 = nI (s % 3)) → tst x s n = true) := by
  have hm : s % 3 = 0 ∨ s % 3 = 1 ∨ s % 3 = 2 := by omega
  have key : ((if nI n ≤ nI (x (s / 3)) then if nI (x (s / 3)) = nI n then (0 : Int32) else 1 else -1) + 1 = nI (s % 3)) ↔ tst x s n = true := by
    have k1 : ¬ nI 1 = nI 0 := by decide
    have k2 : ¬ nI 1 = nI 2 := by decide
    have k3 : ¬ nI 2 = nI 0 := by decide
    have k4 : ¬ nI 2 = nI 1 := by decide
    have k5 : ¬ nI 0 = nI 1 := by decide
    have k6 : ¬ nI 0 = nI 2 := by decide
    have f1 : (0 : Int32) + 1 = nI 1 := by decide
    have f2 : (1 : Int32) + 1 = nI 2 := by decide
    have f3 : (-1 : Int32) + 1 = nI 0 := by decide
    unfold tst
    by_cases a : n ≤ x (s / 3)
    · rw [if_pos (nI_le a (by omega))]
      by_cases b : x (s / 3) = n
      · rw [if_pos (by rw [b])]
        rcases hm with e | e | e <;> rw [e] <;> simp [k1, k2, f1, b]
      · rw [if_neg (nI_ne (by omega) (by omega) b)]
        have c : ¬ x (s / 3) < n := by omega
        have c2 : n < x (s / 3) := by omega
        rcases hm with e | e | e <;> rw [e] <;> simp [k3, k4, f2, b, c, c2]
    · rw [if_neg (fun z => a ((nI_leI (by omega) (by omega)).mp z))]
      have c : x (s / 3) < n := by omega
      have b : ¬ x (s / 3) = n := by omega
      have c2 : ¬ n < x (s / 3) := by omega
      rcases hm with e | e | e <;> rw [e] <;> simp [k5, k6, f3, b, c, c2]
  refine ⟨fun z => ?_, fun z => key.mp z⟩
  cases ht : tst x s n
  · rfl
  · exact absurd (key.mpr ht) z
set_option maxRecDepth 100000 in
set_option maxHeartbeats 4000000 in
theorem mt_loop {X : zX} (h : Hp) (k : Nat) (tx : Value) (sf nf tf : Nat → Int32) (pl : Int32) (tm : Nat) (Q : pP) (htm : tm < 840) (hQ : qI sf nf Q) (hr : zXr X = rmz 2) (B : zB X cX1_makeTide 13 yX1_makeTide.cls yX1_makeTide.name none) : ∀ (R : pP) (j : Nat) (st : List Bool) (sw wv : Int32), j + R.length = Q.length → (∀ i (hi : i < R.length), sf (j + i) = nI R[i].1 ∧ nf (j + i) = nI R[i].2) → wfp st.length R → st.length ≤ 30 → ev (hx tm) R st sw wv = evL tm Q → AW X 0 0 48 [some (.ref k), some (.int (nI tm)), some (.int (nI (tm % 12))), some (.int (nI (tm / 12 % 14))), some (.int (nI (tm % 5))), some (.int (absI (nI (tm % 12) - 6) + sw)), some (.int (wv)), some (.int (nI (bvN st))), some (.int (nI (j))), none, none, none, none] [] (hK (zXg X) h k tx sf nf (nI Q.length) tf pl) (zV fun h' => h' = hK (zXg X) h k tx sf nf (nI Q.length) (upd tf tm (tdV tm Q)) pl) := by
  have hQ1 := hQ.1
  intro R
  induction R with
  | nil =>
    intro j st sw wv hj hR hw hl he
    have hj : j = Q.length := by simpa using hj
    have he : (sw, wv) = evL tm Q := he
    subst hj
    refine aw_iload B dX1_makeTide_48 rfl ?_
    refine aw_aload_n B 0 rfl dX1_makeTide_50 rfl ?_
    refine aw_get B f_X1_18 dX1_makeTide_51 hK_o rfl ?_
    refine aw_icmp_ge B 275 dX1_makeTide_54 (fun c54 => ?_) (fun c54 => absurd (Int32.le_refl _) c54)
    refine aw_aload_n B 0 rfl dX1_makeTide_275 rfl ?_
    refine aw_get B f_X1_22 dX1_makeTide_276 hK_o rfl ?_
    refine aw_iload_n B 1 rfl dX1_makeTide_279 rfl ?_
    refine aw_iconst B 1 (by decide) dX1_makeTide_280 ?_
    refine aw_iconst B 0 (by decide) dX1_makeTide_281 ?_
    refine aw_bipush B 9 (by decide) dX1_makeTide_282 ?_
    refine aw_iload B dX1_makeTide_284 rfl ?_
    refine aw_mmin B ma_X1_57 dX1_makeTide_286 (Nat.le_of_ble_eq_true rfl) (mR2 hr (by omega)) ?_
    refine aw_mmax B ma_X1_60 dX1_makeTide_289 (Nat.le_of_ble_eq_true rfl) (mR2 hr (by omega)) ?_
    refine aw_iadd B dX1_makeTide_292 ?_
    refine aw_bipush B 16 (by decide) dX1_makeTide_293 ?_
    refine aw_bipush B 10 (by decide) dX1_makeTide_295 ?_
    refine aw_iload B dX1_makeTide_297 rfl ?_
    refine aw_mmin B ma_X1_57 dX1_makeTide_299 (Nat.le_of_ble_eq_true rfl) (mR2 hr (by omega)) ?_
    refine aw_imul B dX1_makeTide_302 ?_
    refine aw_iadd B dX1_makeTide_303 ?_
    rw [td_eq hQ.2.1 (by omega) (by rw [← he]) (by rw [← he])]
    refine k_st3 B tm rfl htm dX1_makeTide_304 ?_
    refine aw_vret B rfl dX1_makeTide_305 ?_
    exact ⟨rfl, rfl⟩
  | cons p R ih =>
    obtain ⟨s, n⟩ := p
    intro j st sw wv hj hR hw hl he
    obtain ⟨hn, hs, w1, w2, w3, w4⟩ := hw
    have hj : j + (R.length + 1) = Q.length := by simpa using hj
    have hj100 : j < 100 := by omega
    obtain ⟨es0, en0⟩ := hR 0 (Nat.succ_pos _)
    have es : sf j = nI s := es0
    have en : nf j = nI n := en0
    clear es0 en0
    have hR1 : ∀ i (hi : i < R.length), sf (j + 1 + i) = nI R[i].1 ∧ nf (j + 1 + i) = nI R[i].2 := fun i hi => by
      rw [show j + 1 + i = j + (i + 1) by omega]
      exact hR (i + 1) (Nat.succ_lt_succ hi)
    have hsc : s < 9 ∨ s = 9 ∨ s = 10 ∨ s = 11 ∨ s = 12 ∨ s = 13 ∨ s = 14 := by omega
    rcases hsc with hs9 | rfl | rfl | rfl | rfl | rfl | rfl
    · obtain ⟨ht30, hw'⟩ := w1 hs9
      have hev : ev (hx tm) R (tst (hx tm) s n :: st) sw wv = evL tm Q := by rw [← he, ev, if_pos hs9]
      have hb30 := bv_31 hl
      have hxl : (hx tm (s / 3)) < 20 := by
        unfold hx
        split
        · omega
        · split <;> omega
      have r112 : AW X 0 0 112 [some (.ref k), some (.int (nI tm)), some (.int (nI (tm % 12))), some (.int (nI (tm / 12 % 14))), some (.int (nI (tm % 5))), some (.int (absI (nI (tm % 12) - 6) + sw)), some (.int (wv)), some (.int (nI (bvN st))), some (.int (nI (j))), some (.int (nI s)), some (.int (nI n)), none, none] [.int (nI (hx tm (s / 3)))] (hK (zXg X) h k tx sf nf (nI Q.length) tf pl) (zV fun h' => h' = hK (zXg X) h k tx sf nf (nI Q.length) (upd tf tm (tdV tm Q)) pl) := by
        refine aw_istore11 B dX1_makeTide_112 ?_
        refine aw_iload B dX1_makeTide_114 rfl ?_
        refine aw_iload B dX1_makeTide_116 rfl ?_
        refine aw_callS B 0 0 (s_compare _ _ _ _ _) co_J6_compare_7cf53 k_X1_52 dX1_makeTide_118 rfl rfl (Nat.le_of_ble_eq_true rfl) (zrm hr (by omega)) (Nat.le_refl _) (Nat.le_refl _) (kI fun r118 h118 hp118 => ?_)
        obtain ⟨rfl, rfl⟩ := hp118
        refine aw_iconst B 1 (by decide) dX1_makeTide_121 ?_
        refine aw_iadd B dX1_makeTide_122 ?_
        refine aw_istore12 B dX1_makeTide_123 ?_
        refine aw_iload B dX1_makeTide_125 rfl ?_
        refine aw_iconst B 1 (by decide) dX1_makeTide_127 ?_
        refine aw_ishl B dX1_makeTide_128 ?_
        refine aw_iload B dX1_makeTide_129 rfl ?_
        refine aw_iload B dX1_makeTide_131 rfl ?_
        refine aw_iconst B 3 (by decide) dX1_makeTide_133 ?_
        refine aw_irem B (by decide) dX1_makeTide_134 ?_
        rw [show nI s - nI s / 3 * 3 = nI (s % 3) from pk_rem (by omega) (by decide) (by decide)]
        refine aw_icmp_ne B 142 dX1_makeTide_135 (fun c135 => ?_) (fun c135 => ?_)
        · refine aw_iconst B 0 (by decide) dX1_makeTide_142 ?_
          refine aw_ior B dX1_makeTide_143 ?_
          refine aw_istore7 B dX1_makeTide_144 ?_
          refine aw_goto B 269 dX1_makeTide_146 ?_
          refine aw_iinc8 B 1 (by decide) dX1_makeTide_269 ?_
          refine aw_goto B 48 dX1_makeTide_272 ?_
          rw [nI_1]
          refine AW.weak (lv' := [some (.ref k), some (.int (nI tm)), some (.int (nI (tm % 12))), some (.int (nI (tm / 12 % 14))), some (.int (nI (tm % 5))), some (.int (absI (nI (tm % 12) - 6) + sw)), some (.int (wv)), some (.int (nI (bvN (tst (hx tm) s n :: st)))), some (.int (nI (j + 1))), none, none, none, none]) ⟨Or.inr rfl, Or.inr rfl, Or.inr rfl, Or.inr rfl, Or.inr rfl, Or.inr ?_, Or.inr ?_, Or.inr ?_, Or.inr rfl, Or.inl rfl, Or.inl rfl, Or.inl rfl, Or.inl rfl, trivial⟩ (ih (j + 1) (tst (hx tm) s n :: st) sw wv (by omega) hR1 hw' (by simp; omega) hev)
          · rfl
          · rfl
          · rw [show tst (hx tm) s n = false from (tst_b (by omega) (by omega)).1 c135]
            show some (Value.int (nI (bvN st) <<< ((1 : Int32) &&& 31) ||| nI (bN false))) = some (Value.int (nI (2 * bvN st + bN false)))
            rw [pk_shlN _ 1 (by decide) (by omega), show bvN st * 2 ^ 1 = bvN st * 2 by omega, b_or1]
        · refine aw_iconst B 1 (by decide) dX1_makeTide_138 ?_
          refine aw_goto B 143 dX1_makeTide_139 ?_
          refine aw_ior B dX1_makeTide_143 ?_
          refine aw_istore7 B dX1_makeTide_144 ?_
          refine aw_goto B 269 dX1_makeTide_146 ?_
          refine aw_iinc8 B 1 (by decide) dX1_makeTide_269 ?_
          refine aw_goto B 48 dX1_makeTide_272 ?_
          rw [nI_1]
          refine AW.weak (lv' := [some (.ref k), some (.int (nI tm)), some (.int (nI (tm % 12))), some (.int (nI (tm / 12 % 14))), some (.int (nI (tm % 5))), some (.int (absI (nI (tm % 12) - 6) + sw)), some (.int (wv)), some (.int (nI (bvN (tst (hx tm) s n :: st)))), some (.int (nI (j + 1))), none, none, none, none]) ⟨Or.inr rfl, Or.inr rfl, Or.inr rfl, Or.inr rfl, Or.inr rfl, Or.inr ?_, Or.inr ?_, Or.inr ?_, Or.inr rfl, Or.inl rfl, Or.inl rfl, Or.inl rfl, Or.inl rfl, trivial⟩ (ih (j + 1) (tst (hx tm) s n :: st) sw wv (by omega) hR1 hw' (by simp; omega) hev)
          · rfl
          · rfl
          · rw [show tst (hx tm) s n = true from (tst_b (by omega) (by omega)).2 c135]
            show some (Value.int (nI (bvN st) <<< ((1 : Int32) &&& 31) ||| nI (bN true))) = some (Value.int (nI (2 * bvN st + bN true)))
            rw [pk_shlN _ 1 (by decide) (by omega), show bvN st * 2 ^ 1 = bvN st * 2 by omega, b_or1]
      by_cases h0 : s / 3 = 0
      · rw [show (hx tm (s / 3)) = tm % 12 from by rw [h0]; rfl] at r112
        refine aw_iload B dX1_makeTide_48 rfl ?_
        refine aw_aload_n B 0 rfl dX1_makeTide_50 rfl ?_
        refine aw_get B f_X1_18 dX1_makeTide_51 hK_o rfl ?_
        refine aw_icmp_ge B 275 dX1_makeTide_54 (fun c54 => absurd c54 (Int32.not_le.mpr (nI_lt (by omega) (by omega)))) (fun c54 => ?_)
        refine aw_iload B dX1_makeTide_57 rfl ?_
        refine aw_bipush B 100 (by decide) dX1_makeTide_59 ?_
        refine aw_icmp_ge B 275 dX1_makeTide_61 (fun c61 => absurd c61 (Int32.not_le.mpr (show nI j < nI 100 from nI_lt hj100 (by decide)))) (fun c61 => ?_)
        refine aw_aload_n B 0 rfl dX1_makeTide_64 rfl ?_
        refine aw_get B f_X1_11 dX1_makeTide_65 hK_o rfl ?_
        refine aw_iload B dX1_makeTide_68 rfl ?_
        refine k_ld1 B j rfl hj100 dX1_makeTide_70 ?_
        rw [es]
        refine aw_istore9 B dX1_makeTide_71 ?_
        refine aw_aload_n B 0 rfl dX1_makeTide_73 rfl ?_
        refine aw_get B f_X1_15 dX1_makeTide_74 hK_o rfl ?_
        refine aw_iload B dX1_makeTide_77 rfl ?_
        refine k_ld2 B j rfl hj100 dX1_makeTide_79 ?_
        rw [en]
        refine aw_istore10 B dX1_makeTide_80 ?_
        refine aw_iload B dX1_makeTide_82 rfl ?_
        refine aw_bipush B 9 (by decide) dX1_makeTide_84 ?_
        refine aw_icmp_ge B 149 dX1_makeTide_86 (fun c86 => absurd c86 (Int32.not_le.mpr (show nI s < nI 9 from nI_lt hs9 (by decide)))) (fun c86 => ?_)
        refine aw_iload B dX1_makeTide_89 rfl ?_
        refine aw_iconst B 3 (by decide) dX1_makeTide_91 ?_
        refine aw_icmp_ge B 99 dX1_makeTide_92 (fun c92 => absurd c92 (Int32.not_le.mpr (show nI s < nI 3 from nI_lt (by omega) (by decide)))) (fun c92 => ?_)
        refine aw_iload_n B 2 rfl dX1_makeTide_95 rfl ?_
        refine aw_goto B 112 dX1_makeTide_96 ?_
        exact r112
      by_cases h1 : s / 3 = 1
      · rw [show (hx tm (s / 3)) = tm / 12 % 14 from by rw [h1]; rfl] at r112
        refine aw_iload B dX1_makeTide_48 rfl ?_
        refine aw_aload_n B 0 rfl dX1_makeTide_50 rfl ?_
        refine aw_get B f_X1_18 dX1_makeTide_51 hK_o rfl ?_
        refine aw_icmp_ge B 275 dX1_makeTide_54 (fun c54 => absurd c54 (Int32.not_le.mpr (nI_lt (by omega) (by omega)))) (fun c54 => ?_)
        refine aw_iload B dX1_makeTide_57 rfl ?_
        refine aw_bipush B 100 (by decide) dX1_makeTide_59 ?_
        refine aw_icmp_ge B 275 dX1_makeTide_61 (fun c61 => absurd c61 (Int32.not_le.mpr (show nI j < nI 100 from nI_lt hj100 (by decide)))) (fun c61 => ?_)
        refine aw_aload_n B 0 rfl dX1_makeTide_64 rfl ?_
        refine aw_get B f_X1_11 dX1_makeTide_65 hK_o rfl ?_
        refine aw_iload B dX1_makeTide_68 rfl ?_
        refine k_ld1 B j rfl hj100 dX1_makeTide_70 ?_
        rw [es]
        refine aw_istore9 B dX1_makeTide_71 ?_
        refine aw_aload_n B 0 rfl dX1_makeTide_73 rfl ?_
        refine aw_get B f_X1_15 dX1_makeTide_74 hK_o rfl ?_
        refine aw_iload B dX1_makeTide_77 rfl ?_
        refine k_ld2 B j rfl hj100 dX1_makeTide_79 ?_
        rw [en]
        refine aw_istore10 B dX1_makeTide_80 ?_
        refine aw_iload B dX1_makeTide_82 rfl ?_
        refine aw_bipush B 9 (by decide) dX1_makeTide_84 ?_
        refine aw_icmp_ge B 149 dX1_makeTide_86 (fun c86 => absurd c86 (Int32.not_le.mpr (show nI s < nI 9 from nI_lt hs9 (by decide)))) (fun c86 => ?_)
        refine aw_iload B dX1_makeTide_89 rfl ?_
        refine aw_iconst B 3 (by decide) dX1_makeTide_91 ?_
        refine aw_icmp_ge B 99 dX1_makeTide_92 (fun c92 => ?_) (fun c92 => absurd (show nI 3 ≤ nI s from nI_le (by omega) (by omega)) c92)
        refine aw_iload B dX1_makeTide_99 rfl ?_
        refine aw_bipush B 6 (by decide) dX1_makeTide_101 ?_
        refine aw_icmp_ge B 110 dX1_makeTide_103 (fun c103 => absurd c103 (Int32.not_le.mpr (show nI s < nI 6 from nI_lt (by omega) (by decide)))) (fun c103 => ?_)
        refine aw_iload_n B 3 rfl dX1_makeTide_106 rfl ?_
        refine aw_goto B 112 dX1_makeTide_107 ?_
        exact r112
      · have h2 : s / 3 = 2 := by omega
        rw [show (hx tm (s / 3)) = tm % 5 from by rw [h2]; rfl] at r112
        refine aw_iload B dX1_makeTide_48 rfl ?_
        refine aw_aload_n B 0 rfl dX1_makeTide_50 rfl ?_
        refine aw_get B f_X1_18 dX1_makeTide_51 hK_o rfl ?_
        refine aw_icmp_ge B 275 dX1_makeTide_54 (fun c54 => absurd c54 (Int32.not_le.mpr (nI_lt (by omega) (by omega)))) (fun c54 => ?_)
        refine aw_iload B dX1_makeTide_57 rfl ?_
        refine aw_bipush B 100 (by decide) dX1_makeTide_59 ?_
        refine aw_icmp_ge B 275 dX1_makeTide_61 (fun c61 => absurd c61 (Int32.not_le.mpr (show nI j < nI 100 from nI_lt hj100 (by decide)))) (fun c61 => ?_)
        refine aw_aload_n B 0 rfl dX1_makeTide_64 rfl ?_
        refine aw_get B f_X1_11 dX1_makeTide_65 hK_o rfl ?_
        refine aw_iload B dX1_makeTide_68 rfl ?_
        refine k_ld1 B j rfl hj100 dX1_makeTide_70 ?_
        rw [es]
        refine aw_istore9 B dX1_makeTide_71 ?_
        refine aw_aload_n B 0 rfl dX1_makeTide_73 rfl ?_
        refine aw_get B f_X1_15 dX1_makeTide_74 hK_o rfl ?_
        refine aw_iload B dX1_makeTide_77 rfl ?_
        refine k_ld2 B j rfl hj100 dX1_makeTide_79 ?_
        rw [en]
        refine aw_istore10 B dX1_makeTide_80 ?_
        refine aw_iload B dX1_makeTide_82 rfl ?_
        refine aw_bipush B 9 (by decide) dX1_makeTide_84 ?_
        refine aw_icmp_ge B 149 dX1_makeTide_86 (fun c86 => absurd c86 (Int32.not_le.mpr (show nI s < nI 9 from nI_lt hs9 (by decide)))) (fun c86 => ?_)
        refine aw_iload B dX1_makeTide_89 rfl ?_
        refine aw_iconst B 3 (by decide) dX1_makeTide_91 ?_
        refine aw_icmp_ge B 99 dX1_makeTide_92 (fun c92 => ?_) (fun c92 => absurd (show nI 3 ≤ nI s from nI_le (by omega) (by omega)) c92)
        refine aw_iload B dX1_makeTide_99 rfl ?_
        refine aw_bipush B 6 (by decide) dX1_makeTide_101 ?_
        refine aw_icmp_ge B 110 dX1_makeTide_103 (fun c103 => ?_) (fun c103 => absurd (show nI 6 ≤ nI s from nI_le (by omega) (by omega)) c103)
        refine aw_iload B dX1_makeTide_110 rfl ?_
        exact r112
    · obtain ⟨ht1, hw'⟩ := w2 rfl
      obtain ⟨b, st, rfl⟩ : ∃ b st', st = b :: st' := by
        cases st with
        | nil => simp at ht1
        | cons b st => exact ⟨b, st, rfl⟩
      have hev : ev (hx tm) R ((!b) :: st) sw wv = evL tm Q := by rw [← he, ev]; simp
      refine aw_iload B dX1_makeTide_48 rfl ?_
      refine aw_aload_n B 0 rfl dX1_makeTide_50 rfl ?_
      refine aw_get B f_X1_18 dX1_makeTide_51 hK_o rfl ?_
      refine aw_icmp_ge B 275 dX1_makeTide_54 (fun c54 => absurd c54 (Int32.not_le.mpr (nI_lt (by omega) (by omega)))) (fun c54 => ?_)
      refine aw_iload B dX1_makeTide_57 rfl ?_
      refine aw_bipush B 100 (by decide) dX1_makeTide_59 ?_
      refine aw_icmp_ge B 275 dX1_makeTide_61 (fun c61 => absurd c61 (Int32.not_le.mpr (show nI j < nI 100 from nI_lt hj100 (by decide)))) (fun c61 => ?_)
      refine aw_aload_n B 0 rfl dX1_makeTide_64 rfl ?_
      refine aw_get B f_X1_11 dX1_makeTide_65 hK_o rfl ?_
      refine aw_iload B dX1_makeTide_68 rfl ?_
      refine k_ld1 B j rfl hj100 dX1_makeTide_70 ?_
      rw [es]
      refine aw_istore9 B dX1_makeTide_71 ?_
      refine aw_aload_n B 0 rfl dX1_makeTide_73 rfl ?_
      refine aw_get B f_X1_15 dX1_makeTide_74 hK_o rfl ?_
      refine aw_iload B dX1_makeTide_77 rfl ?_
      refine k_ld2 B j rfl hj100 dX1_makeTide_79 ?_
      rw [en]
      refine aw_istore10 B dX1_makeTide_80 ?_
      refine aw_iload B dX1_makeTide_82 rfl ?_
      refine aw_bipush B 9 (by decide) dX1_makeTide_84 ?_
      refine aw_icmp_ge B 149 dX1_makeTide_86 (fun c86 => ?_) (fun c86 => absurd (by decide) c86)
      refine aw_iload B dX1_makeTide_149 rfl ?_
      refine aw_bipush B 9 (by decide) dX1_makeTide_151 ?_
      refine aw_icmp_ne B 165 dX1_makeTide_153 (fun c153 => absurd rfl c153) (fun c153 => ?_)
      refine aw_iload B dX1_makeTide_156 rfl ?_
      refine aw_iconst B 1 (by decide) dX1_makeTide_158 ?_
      refine aw_ixor B dX1_makeTide_159 ?_
      refine aw_istore7 B dX1_makeTide_160 ?_
      refine aw_goto B 269 dX1_makeTide_162 ?_
      refine aw_iinc8 B 1 (by decide) dX1_makeTide_269 ?_
      refine aw_goto B 48 dX1_makeTide_272 ?_
      rw [nI_1]
      refine AW.weak (lv' := [some (.ref k), some (.int (nI tm)), some (.int (nI (tm % 12))), some (.int (nI (tm / 12 % 14))), some (.int (nI (tm % 5))), some (.int (absI (nI (tm % 12) - 6) + sw)), some (.int (wv)), some (.int (nI (bvN ((!b) :: st)))), some (.int (nI (j + 1))), none, none, none, none]) ⟨Or.inr rfl, Or.inr rfl, Or.inr rfl, Or.inr rfl, Or.inr rfl, Or.inr ?_, Or.inr ?_, Or.inr ?_, Or.inr rfl, Or.inl rfl, Or.inl rfl, Or.inl rfl, Or.inl rfl, trivial⟩ (ih (j + 1) ((!b) :: st) sw wv (by omega) hR1 hw' hl hev)
      · rfl
      · rfl
      · exact congrArg (fun z => some (Value.int z)) b_xor
    · obtain ⟨ht2, hw'⟩ := w3 (by simp)
      obtain ⟨b, b', st, rfl⟩ : ∃ b b' st', st = b :: b' :: st' := by
        match st, ht2 with
        | b :: b' :: st, _ => exact ⟨b, b', st, rfl⟩
      have hev : ev (hx tm) R ((b' && b) :: st) sw wv = evL tm Q := by rw [← he, ev]; simp
      have hl2 : st.length + 1 + 1 ≤ 30 := hl
      have hb30 : 2 * (2 * bvN st + bN b') + bN b < 2 ^ 30 := bv_31 hl
      have hsh := b_sh (a := 2 * bvN st + bN b') (b := b) (by omega)
      refine aw_iload B dX1_makeTide_48 rfl ?_
      refine aw_aload_n B 0 rfl dX1_makeTide_50 rfl ?_
      refine aw_get B f_X1_18 dX1_makeTide_51 hK_o rfl ?_
      refine aw_icmp_ge B 275 dX1_makeTide_54 (fun c54 => absurd c54 (Int32.not_le.mpr (nI_lt (by omega) (by omega)))) (fun c54 => ?_)
      refine aw_iload B dX1_makeTide_57 rfl ?_
      refine aw_bipush B 100 (by decide) dX1_makeTide_59 ?_
      refine aw_icmp_ge B 275 dX1_makeTide_61 (fun c61 => absurd c61 (Int32.not_le.mpr (show nI j < nI 100 from nI_lt hj100 (by decide)))) (fun c61 => ?_)
      refine aw_aload_n B 0 rfl dX1_makeTide_64 rfl ?_
      refine aw_get B f_X1_11 dX1_makeTide_65 hK_o rfl ?_
      refine aw_iload B dX1_makeTide_68 rfl ?_
      refine k_ld1 B j rfl hj100 dX1_makeTide_70 ?_
      rw [es]
      refine aw_istore9 B dX1_makeTide_71 ?_
      refine aw_aload_n B 0 rfl dX1_makeTide_73 rfl ?_
      refine aw_get B f_X1_15 dX1_makeTide_74 hK_o rfl ?_
      refine aw_iload B dX1_makeTide_77 rfl ?_
      refine k_ld2 B j rfl hj100 dX1_makeTide_79 ?_
      rw [en]
      refine aw_istore10 B dX1_makeTide_80 ?_
      refine aw_iload B dX1_makeTide_82 rfl ?_
      refine aw_bipush B 9 (by decide) dX1_makeTide_84 ?_
      refine aw_icmp_ge B 149 dX1_makeTide_86 (fun c86 => ?_) (fun c86 => absurd (by decide) c86)
      refine aw_iload B dX1_makeTide_149 rfl ?_
      refine aw_bipush B 9 (by decide) dX1_makeTide_151 ?_
      refine aw_icmp_ne B 165 dX1_makeTide_153 (fun c153 => ?_) (fun c153 => absurd c153 (by decide))
      refine aw_iload B dX1_makeTide_165 rfl ?_
      refine aw_bipush B 10 (by decide) dX1_makeTide_167 ?_
      refine aw_icmp_ne B 187 dX1_makeTide_169 (fun c169 => absurd rfl c169) (fun c169 => ?_)
      refine aw_iload B dX1_makeTide_172 rfl ?_
      refine aw_iconst B 1 (by decide) dX1_makeTide_174 ?_
      refine aw_ishr B dX1_makeTide_175 ?_
      refine aw_iload B dX1_makeTide_176 rfl ?_
      refine aw_bipush B (-2) (by decide) dX1_makeTide_178 ?_
      refine aw_ior B dX1_makeTide_180 ?_
      refine aw_iand B dX1_makeTide_181 ?_
      refine aw_istore7 B dX1_makeTide_182 ?_
      refine aw_goto B 269 dX1_makeTide_184 ?_
      refine aw_iinc8 B 1 (by decide) dX1_makeTide_269 ?_
      refine aw_goto B 48 dX1_makeTide_272 ?_
      rw [nI_1]
      refine AW.weak (lv' := [some (.ref k), some (.int (nI tm)), some (.int (nI (tm % 12))), some (.int (nI (tm / 12 % 14))), some (.int (nI (tm % 5))), some (.int (absI (nI (tm % 12) - 6) + sw)), some (.int (wv)), some (.int (nI (bvN ((b' && b) :: st)))), some (.int (nI (j + 1))), none, none, none, none]) ⟨Or.inr rfl, Or.inr rfl, Or.inr rfl, Or.inr rfl, Or.inr rfl, Or.inr ?_, Or.inr ?_, Or.inr ?_, Or.inr rfl, Or.inl rfl, Or.inl rfl, Or.inl rfl, Or.inl rfl, trivial⟩ (ih (j + 1) ((b' && b) :: st) sw wv (by omega) hR1 hw' (by simp; omega) hev)
      · rfl
      · rfl
      · show some (Value.int ((nI (2 * (2 * bvN st + bN b') + bN b) >>> ((1 : Int32) &&& 31)) &&& (nI (2 * (2 * bvN st + bN b') + bN b) ||| (-2)))) = some (Value.int (nI (2 * bvN st + bN (b' && b))))
        rw [hsh, b_and]
    · obtain ⟨ht2, hw'⟩ := w3 (by simp)
      obtain ⟨b, b', st, rfl⟩ : ∃ b b' st', st = b :: b' :: st' := by
        match st, ht2 with
        | b :: b' :: st, _ => exact ⟨b, b', st, rfl⟩
      have hev : ev (hx tm) R ((b' || b) :: st) sw wv = evL tm Q := by rw [← he, ev]; simp
      have hl2 : st.length + 1 + 1 ≤ 30 := hl
      have hb30 : 2 * (2 * bvN st + bN b') + bN b < 2 ^ 30 := bv_31 hl
      have hsh := b_sh (a := 2 * bvN st + bN b') (b := b) (by omega)
      refine aw_iload B dX1_makeTide_48 rfl ?_
      refine aw_aload_n B 0 rfl dX1_makeTide_50 rfl ?_
      refine aw_get B f_X1_18 dX1_makeTide_51 hK_o rfl ?_
      refine aw_icmp_ge B 275 dX1_makeTide_54 (fun c54 => absurd c54 (Int32.not_le.mpr (nI_lt (by omega) (by omega)))) (fun c54 => ?_)
      refine aw_iload B dX1_makeTide_57 rfl ?_
      refine aw_bipush B 100 (by decide) dX1_makeTide_59 ?_
      refine aw_icmp_ge B 275 dX1_makeTide_61 (fun c61 => absurd c61 (Int32.not_le.mpr (show nI j < nI 100 from nI_lt hj100 (by decide)))) (fun c61 => ?_)
      refine aw_aload_n B 0 rfl dX1_makeTide_64 rfl ?_
      refine aw_get B f_X1_11 dX1_makeTide_65 hK_o rfl ?_
      refine aw_iload B dX1_makeTide_68 rfl ?_
      refine k_ld1 B j rfl hj100 dX1_makeTide_70 ?_
      rw [es]
      refine aw_istore9 B dX1_makeTide_71 ?_
      refine aw_aload_n B 0 rfl dX1_makeTide_73 rfl ?_
      refine aw_get B f_X1_15 dX1_makeTide_74 hK_o rfl ?_
      refine aw_iload B dX1_makeTide_77 rfl ?_
      refine k_ld2 B j rfl hj100 dX1_makeTide_79 ?_
      rw [en]
      refine aw_istore10 B dX1_makeTide_80 ?_
      refine aw_iload B dX1_makeTide_82 rfl ?_
      refine aw_bipush B 9 (by decide) dX1_makeTide_84 ?_
      refine aw_icmp_ge B 149 dX1_makeTide_86 (fun c86 => ?_) (fun c86 => absurd (by decide) c86)
      refine aw_iload B dX1_makeTide_149 rfl ?_
      refine aw_bipush B 9 (by decide) dX1_makeTide_151 ?_
      refine aw_icmp_ne B 165 dX1_makeTide_153 (fun c153 => ?_) (fun c153 => absurd c153 (by decide))
      refine aw_iload B dX1_makeTide_165 rfl ?_
      refine aw_bipush B 10 (by decide) dX1_makeTide_167 ?_
      refine aw_icmp_ne B 187 dX1_makeTide_169 (fun c169 => ?_) (fun c169 => absurd c169 (by decide))
      refine aw_iload B dX1_makeTide_187 rfl ?_
      refine aw_bipush B 11 (by decide) dX1_makeTide_189 ?_
      refine aw_icmp_ne B 208 dX1_makeTide_191 (fun c191 => absurd rfl c191) (fun c191 => ?_)
      refine aw_iload B dX1_makeTide_194 rfl ?_
      refine aw_iconst B 1 (by decide) dX1_makeTide_196 ?_
      refine aw_ishr B dX1_makeTide_197 ?_
      refine aw_iload B dX1_makeTide_198 rfl ?_
      refine aw_iconst B 1 (by decide) dX1_makeTide_200 ?_
      refine aw_iand B dX1_makeTide_201 ?_
      refine aw_ior B dX1_makeTide_202 ?_
      refine aw_istore7 B dX1_makeTide_203 ?_
      refine aw_goto B 269 dX1_makeTide_205 ?_
      refine aw_iinc8 B 1 (by decide) dX1_makeTide_269 ?_
      refine aw_goto B 48 dX1_makeTide_272 ?_
      rw [nI_1]
      refine AW.weak (lv' := [some (.ref k), some (.int (nI tm)), some (.int (nI (tm % 12))), some (.int (nI (tm / 12 % 14))), some (.int (nI (tm % 5))), some (.int (absI (nI (tm % 12) - 6) + sw)), some (.int (wv)), some (.int (nI (bvN ((b' || b) :: st)))), some (.int (nI (j + 1))), none, none, none, none]) ⟨Or.inr rfl, Or.inr rfl, Or.inr rfl, Or.inr rfl, Or.inr rfl, Or.inr ?_, Or.inr ?_, Or.inr ?_, Or.inr rfl, Or.inl rfl, Or.inl rfl, Or.inl rfl, Or.inl rfl, trivial⟩ (ih (j + 1) ((b' || b) :: st) sw wv (by omega) hR1 hw' (by simp; omega) hev)
      · rfl
      · rfl
      · show some (Value.int ((nI (2 * (2 * bvN st + bN b') + bN b) >>> ((1 : Int32) &&& 31)) ||| (nI (2 * (2 * bvN st + bN b') + bN b) &&& 1))) = some (Value.int (nI (2 * bvN st + bN (b' || b))))
        rw [hsh, b_or]
    · obtain ⟨ht1, hw'⟩ := w4 (by omega)
      obtain ⟨b, rfl⟩ : ∃ b, st = [b] := by
        match st, ht1 with
        | [b], _ => exact ⟨b, rfl⟩
      have hev : ev (hx tm) R [] (sw + cl_s 12 n b) (wv + cl_w 12 n b) = evL tm Q := by rw [← he, ev]; cases b <;> simp [cl_s, cl_w]
      have eb : nI (bN b) * nI n = if b = false then 0 else nI n := by
        cases b
        · show nI 0 * nI n = 0
          rw [pk_mul, Nat.zero_mul]; rfl
        · show nI 1 * nI n = nI n
          rw [pk_mul, Nat.one_mul]
      refine aw_iload B dX1_makeTide_48 rfl ?_
      refine aw_aload_n B 0 rfl dX1_makeTide_50 rfl ?_
      refine aw_get B f_X1_18 dX1_makeTide_51 hK_o rfl ?_
      refine aw_icmp_ge B 275 dX1_makeTide_54 (fun c54 => absurd c54 (Int32.not_le.mpr (nI_lt (by omega) (by omega)))) (fun c54 => ?_)
      refine aw_iload B dX1_makeTide_57 rfl ?_
      refine aw_bipush B 100 (by decide) dX1_makeTide_59 ?_
      refine aw_icmp_ge B 275 dX1_makeTide_61 (fun c61 => absurd c61 (Int32.not_le.mpr (show nI j < nI 100 from nI_lt hj100 (by decide)))) (fun c61 => ?_)
      refine aw_aload_n B 0 rfl dX1_makeTide_64 rfl ?_
      refine aw_get B f_X1_11 dX1_makeTide_65 hK_o rfl ?_
      refine aw_iload B dX1_makeTide_68 rfl ?_
      refine k_ld1 B j rfl hj100 dX1_makeTide_70 ?_
      rw [es]
      refine aw_istore9 B dX1_makeTide_71 ?_
      refine aw_aload_n B 0 rfl dX1_makeTide_73 rfl ?_
      refine aw_get B f_X1_15 dX1_makeTide_74 hK_o rfl ?_
      refine aw_iload B dX1_makeTide_77 rfl ?_
      refine k_ld2 B j rfl hj100 dX1_makeTide_79 ?_
      rw [en]
      refine aw_istore10 B dX1_makeTide_80 ?_
      refine aw_iload B dX1_makeTide_82 rfl ?_
      refine aw_bipush B 9 (by decide) dX1_makeTide_84 ?_
      refine aw_icmp_ge B 149 dX1_makeTide_86 (fun c86 => ?_) (fun c86 => absurd (by decide) c86)
      refine aw_iload B dX1_makeTide_149 rfl ?_
      refine aw_bipush B 9 (by decide) dX1_makeTide_151 ?_
      refine aw_icmp_ne B 165 dX1_makeTide_153 (fun c153 => ?_) (fun c153 => absurd c153 (by decide))
      refine aw_iload B dX1_makeTide_165 rfl ?_
      refine aw_bipush B 10 (by decide) dX1_makeTide_167 ?_
      refine aw_icmp_ne B 187 dX1_makeTide_169 (fun c169 => ?_) (fun c169 => absurd c169 (by decide))
      refine aw_iload B dX1_makeTide_187 rfl ?_
      refine aw_bipush B 11 (by decide) dX1_makeTide_189 ?_
      refine aw_icmp_ne B 208 dX1_makeTide_191 (fun c191 => ?_) (fun c191 => absurd c191 (by decide))
      refine aw_iload B dX1_makeTide_208 rfl ?_
      refine aw_iconst B 1 (by decide) dX1_makeTide_210 ?_
      refine aw_iand B dX1_makeTide_211 ?_
      rw [show nI (bvN [b]) &&& 1 = nI (bN b) from b_lo]
      refine aw_iload B dX1_makeTide_212 rfl ?_
      refine aw_imul B dX1_makeTide_214 ?_
      rw [eb]
      refine aw_istore11 B dX1_makeTide_215 ?_
      refine aw_iload B dX1_makeTide_217 rfl ?_
      refine aw_iload B dX1_makeTide_219 rfl ?_
      refine aw_bipush B 12 (by decide) dX1_makeTide_221 ?_
      refine aw_icmp_ne B 231 dX1_makeTide_223 (fun c223 => absurd rfl c223) (fun c223 => ?_)
      refine aw_iload B dX1_makeTide_226 rfl ?_
      refine aw_goto B 245 dX1_makeTide_228 ?_
      refine aw_iadd B dX1_makeTide_245 ?_
      refine aw_istore5 B dX1_makeTide_246 ?_
      refine aw_iload B dX1_makeTide_248 rfl ?_
      refine aw_iload B dX1_makeTide_250 rfl ?_
      refine aw_bipush B 14 (by decide) dX1_makeTide_252 ?_
      refine aw_icmp_ne B 262 dX1_makeTide_254 (fun c254 => ?_) (fun c254 => absurd c254 (by decide))
      refine aw_iconst B 0 (by decide) dX1_makeTide_262 ?_
      refine aw_iadd B dX1_makeTide_263 ?_
      refine aw_istore6 B dX1_makeTide_264 ?_
      refine aw_iconst B 0 (by decide) dX1_makeTide_266 ?_
      refine aw_istore7 B dX1_makeTide_267 ?_
      refine aw_iinc8 B 1 (by decide) dX1_makeTide_269 ?_
      refine aw_goto B 48 dX1_makeTide_272 ?_
      rw [nI_1]
      refine AW.weak (lv' := [some (.ref k), some (.int (nI tm)), some (.int (nI (tm % 12))), some (.int (nI (tm / 12 % 14))), some (.int (nI (tm % 5))), some (.int (absI (nI (tm % 12) - 6) + (sw + cl_s 12 n b))), some (.int (wv + cl_w 12 n b)), some (.int (nI (bvN []))), some (.int (nI (j + 1))), none, none, none, none]) ⟨Or.inr rfl, Or.inr rfl, Or.inr rfl, Or.inr rfl, Or.inr rfl, Or.inr ?_, Or.inr ?_, Or.inr ?_, Or.inr rfl, Or.inl rfl, Or.inl rfl, Or.inl rfl, Or.inl rfl, trivial⟩ (ih (j + 1) [] (sw + cl_s 12 n b) (wv + cl_w 12 n b) (by omega) hR1 hw' (by simp) hev)
      · rw [Int32.add_assoc]; cases b <;> rfl
      · cases b <;> rfl
      · rfl
    · obtain ⟨ht1, hw'⟩ := w4 (by omega)
      obtain ⟨b, rfl⟩ : ∃ b, st = [b] := by
        match st, ht1 with
        | [b], _ => exact ⟨b, rfl⟩
      have hev : ev (hx tm) R [] (sw + cl_s 13 n b) (wv + cl_w 13 n b) = evL tm Q := by rw [← he, ev]; cases b <;> simp [cl_s, cl_w]
      have eb : nI (bN b) * nI n = if b = false then 0 else nI n := by
        cases b
        · show nI 0 * nI n = 0
          rw [pk_mul, Nat.zero_mul]; rfl
        · show nI 1 * nI n = nI n
          rw [pk_mul, Nat.one_mul]
      refine aw_iload B dX1_makeTide_48 rfl ?_
      refine aw_aload_n B 0 rfl dX1_makeTide_50 rfl ?_
      refine aw_get B f_X1_18 dX1_makeTide_51 hK_o rfl ?_
      refine aw_icmp_ge B 275 dX1_makeTide_54 (fun c54 => absurd c54 (Int32.not_le.mpr (nI_lt (by omega) (by omega)))) (fun c54 => ?_)
      refine aw_iload B dX1_makeTide_57 rfl ?_
      refine aw_bipush B 100 (by decide) dX1_makeTide_59 ?_
      refine aw_icmp_ge B 275 dX1_makeTide_61 (fun c61 => absurd c61 (Int32.not_le.mpr (show nI j < nI 100 from nI_lt hj100 (by decide)))) (fun c61 => ?_)
      refine aw_aload_n B 0 rfl dX1_makeTide_64 rfl ?_
      refine aw_get B f_X1_11 dX1_makeTide_65 hK_o rfl ?_
      refine aw_iload B dX1_makeTide_68 rfl ?_
      refine k_ld1 B j rfl hj100 dX1_makeTide_70 ?_
      rw [es]
      refine aw_istore9 B dX1_makeTide_71 ?_
      refine aw_aload_n B 0 rfl dX1_makeTide_73 rfl ?_
      refine aw_get B f_X1_15 dX1_makeTide_74 hK_o rfl ?_
      refine aw_iload B dX1_makeTide_77 rfl ?_
      refine k_ld2 B j rfl hj100 dX1_makeTide_79 ?_
      rw [en]
      refine aw_istore10 B dX1_makeTide_80 ?_
      refine aw_iload B dX1_makeTide_82 rfl ?_
      refine aw_bipush B 9 (by decide) dX1_makeTide_84 ?_
      refine aw_icmp_ge B 149 dX1_makeTide_86 (fun c86 => ?_) (fun c86 => absurd (by decide) c86)
      refine aw_iload B dX1_makeTide_149 rfl ?_
      refine aw_bipush B 9 (by decide) dX1_makeTide_151 ?_
      refine aw_icmp_ne B 165 dX1_makeTide_153 (fun c153 => ?_) (fun c153 => absurd c153 (by decide))
      refine aw_iload B dX1_makeTide_165 rfl ?_
      refine aw_bipush B 10 (by decide) dX1_makeTide_167 ?_
      refine aw_icmp_ne B 187 dX1_makeTide_169 (fun c169 => ?_) (fun c169 => absurd c169 (by decide))
      refine aw_iload B dX1_makeTide_187 rfl ?_
      refine aw_bipush B 11 (by decide) dX1_makeTide_189 ?_
      refine aw_icmp_ne B 208 dX1_makeTide_191 (fun c191 => ?_) (fun c191 => absurd c191 (by decide))
      refine aw_iload B dX1_makeTide_208 rfl ?_
      refine aw_iconst B 1 (by decide) dX1_makeTide_210 ?_
      refine aw_iand B dX1_makeTide_211 ?_
      rw [show nI (bvN [b]) &&& 1 = nI (bN b) from b_lo]
      refine aw_iload B dX1_makeTide_212 rfl ?_
      refine aw_imul B dX1_makeTide_214 ?_
      rw [eb]
      refine aw_istore11 B dX1_makeTide_215 ?_
      refine aw_iload B dX1_makeTide_217 rfl ?_
      refine aw_iload B dX1_makeTide_219 rfl ?_
      refine aw_bipush B 12 (by decide) dX1_makeTide_221 ?_
      refine aw_icmp_ne B 231 dX1_makeTide_223 (fun c223 => ?_) (fun c223 => absurd c223 (by decide))
      refine aw_iload B dX1_makeTide_231 rfl ?_
      refine aw_bipush B 13 (by decide) dX1_makeTide_233 ?_
      refine aw_icmp_ne B 244 dX1_makeTide_235 (fun c235 => absurd rfl c235) (fun c235 => ?_)
      refine aw_iload B dX1_makeTide_238 rfl ?_
      refine aw_ineg B dX1_makeTide_240 ?_
      refine aw_goto B 245 dX1_makeTide_241 ?_
      refine aw_iadd B dX1_makeTide_245 ?_
      refine aw_istore5 B dX1_makeTide_246 ?_
      refine aw_iload B dX1_makeTide_248 rfl ?_
      refine aw_iload B dX1_makeTide_250 rfl ?_
      refine aw_bipush B 14 (by decide) dX1_makeTide_252 ?_
      refine aw_icmp_ne B 262 dX1_makeTide_254 (fun c254 => ?_) (fun c254 => absurd c254 (by decide))
      refine aw_iconst B 0 (by decide) dX1_makeTide_262 ?_
      refine aw_iadd B dX1_makeTide_263 ?_
      refine aw_istore6 B dX1_makeTide_264 ?_
      refine aw_iconst B 0 (by decide) dX1_makeTide_266 ?_
      refine aw_istore7 B dX1_makeTide_267 ?_
      refine aw_iinc8 B 1 (by decide) dX1_makeTide_269 ?_
      refine aw_goto B 48 dX1_makeTide_272 ?_
      rw [nI_1]
      refine AW.weak (lv' := [some (.ref k), some (.int (nI tm)), some (.int (nI (tm % 12))), some (.int (nI (tm / 12 % 14))), some (.int (nI (tm % 5))), some (.int (absI (nI (tm % 12) - 6) + (sw + cl_s 13 n b))), some (.int (wv + cl_w 13 n b)), some (.int (nI (bvN []))), some (.int (nI (j + 1))), none, none, none, none]) ⟨Or.inr rfl, Or.inr rfl, Or.inr rfl, Or.inr rfl, Or.inr rfl, Or.inr ?_, Or.inr ?_, Or.inr ?_, Or.inr rfl, Or.inl rfl, Or.inl rfl, Or.inl rfl, Or.inl rfl, trivial⟩ (ih (j + 1) [] (sw + cl_s 13 n b) (wv + cl_w 13 n b) (by omega) hR1 hw' (by simp) hev)
      · rw [Int32.add_assoc]; cases b <;> first | rfl | simp [cl_s]
      · cases b <;> rfl
      · rfl
    · obtain ⟨ht1, hw'⟩ := w4 (by omega)
      obtain ⟨b, rfl⟩ : ∃ b, st = [b] := by
        match st, ht1 with
        | [b], _ => exact ⟨b, rfl⟩
      have hev : ev (hx tm) R [] (sw + cl_s 14 n b) (wv + cl_w 14 n b) = evL tm Q := by rw [← he, ev]; cases b <;> simp [cl_s, cl_w]
      have eb : nI (bN b) * nI n = if b = false then 0 else nI n := by
        cases b
        · show nI 0 * nI n = 0
          rw [pk_mul, Nat.zero_mul]; rfl
        · show nI 1 * nI n = nI n
          rw [pk_mul, Nat.one_mul]
      refine aw_iload B dX1_makeTide_48 rfl ?_
      refine aw_aload_n B 0 rfl dX1_makeTide_50 rfl ?_
      refine aw_get B f_X1_18 dX1_makeTide_51 hK_o rfl ?_
      refine aw_icmp_ge B 275 dX1_makeTide_54 (fun c54 => absurd c54 (Int32.not_le.mpr (nI_lt (by omega) (by omega)))) (fun c54 => ?_)
      refine aw_iload B dX1_makeTide_57 rfl ?_
      refine aw_bipush B 100 (by decide) dX1_makeTide_59 ?_
      refine aw_icmp_ge B 275 dX1_makeTide_61 (fun c61 => absurd c61 (Int32.not_le.mpr (show nI j < nI 100 from nI_lt hj100 (by decide)))) (fun c61 => ?_)
      refine aw_aload_n B 0 rfl dX1_makeTide_64 rfl ?_
      refine aw_get B f_X1_11 dX1_makeTide_65 hK_o rfl ?_
      refine aw_iload B dX1_makeTide_68 rfl ?_
      refine k_ld1 B j rfl hj100 dX1_makeTide_70 ?_
      rw [es]
      refine aw_istore9 B dX1_makeTide_71 ?_
      refine aw_aload_n B 0 rfl dX1_makeTide_73 rfl ?_
      refine aw_get B f_X1_15 dX1_makeTide_74 hK_o rfl ?_
      refine aw_iload B dX1_makeTide_77 rfl ?_
      refine k_ld2 B j rfl hj100 dX1_makeTide_79 ?_
      rw [en]
      refine aw_istore10 B dX1_makeTide_80 ?_
      refine aw_iload B dX1_makeTide_82 rfl ?_
      refine aw_bipush B 9 (by decide) dX1_makeTide_84 ?_
      refine aw_icmp_ge B 149 dX1_makeTide_86 (fun c86 => ?_) (fun c86 => absurd (by decide) c86)
      refine aw_iload B dX1_makeTide_149 rfl ?_
      refine aw_bipush B 9 (by decide) dX1_makeTide_151 ?_
      refine aw_icmp_ne B 165 dX1_makeTide_153 (fun c153 => ?_) (fun c153 => absurd c153 (by decide))
      refine aw_iload B dX1_makeTide_165 rfl ?_
      refine aw_bipush B 10 (by decide) dX1_makeTide_167 ?_
      refine aw_icmp_ne B 187 dX1_makeTide_169 (fun c169 => ?_) (fun c169 => absurd c169 (by decide))
      refine aw_iload B dX1_makeTide_187 rfl ?_
      refine aw_bipush B 11 (by decide) dX1_makeTide_189 ?_
      refine aw_icmp_ne B 208 dX1_makeTide_191 (fun c191 => ?_) (fun c191 => absurd c191 (by decide))
      refine aw_iload B dX1_makeTide_208 rfl ?_
      refine aw_iconst B 1 (by decide) dX1_makeTide_210 ?_
      refine aw_iand B dX1_makeTide_211 ?_
      rw [show nI (bvN [b]) &&& 1 = nI (bN b) from b_lo]
      refine aw_iload B dX1_makeTide_212 rfl ?_
      refine aw_imul B dX1_makeTide_214 ?_
      rw [eb]
      refine aw_istore11 B dX1_makeTide_215 ?_
      refine aw_iload B dX1_makeTide_217 rfl ?_
      refine aw_iload B dX1_makeTide_219 rfl ?_
      refine aw_bipush B 12 (by decide) dX1_makeTide_221 ?_
      refine aw_icmp_ne B 231 dX1_makeTide_223 (fun c223 => ?_) (fun c223 => absurd c223 (by decide))
      refine aw_iload B dX1_makeTide_231 rfl ?_
      refine aw_bipush B 13 (by decide) dX1_makeTide_233 ?_
      refine aw_icmp_ne B 244 dX1_makeTide_235 (fun c235 => ?_) (fun c235 => absurd c235 (by decide))
      refine aw_iconst B 0 (by decide) dX1_makeTide_244 ?_
      refine aw_iadd B dX1_makeTide_245 ?_
      refine aw_istore5 B dX1_makeTide_246 ?_
      refine aw_iload B dX1_makeTide_248 rfl ?_
      refine aw_iload B dX1_makeTide_250 rfl ?_
      refine aw_bipush B 14 (by decide) dX1_makeTide_252 ?_
      refine aw_icmp_ne B 262 dX1_makeTide_254 (fun c254 => absurd rfl c254) (fun c254 => ?_)
      refine aw_iload B dX1_makeTide_257 rfl ?_
      refine aw_goto B 263 dX1_makeTide_259 ?_
      refine aw_iadd B dX1_makeTide_263 ?_
      refine aw_istore6 B dX1_makeTide_264 ?_
      refine aw_iconst B 0 (by decide) dX1_makeTide_266 ?_
      refine aw_istore7 B dX1_makeTide_267 ?_
      refine aw_iinc8 B 1 (by decide) dX1_makeTide_269 ?_
      refine aw_goto B 48 dX1_makeTide_272 ?_
      rw [nI_1]
      refine AW.weak (lv' := [some (.ref k), some (.int (nI tm)), some (.int (nI (tm % 12))), some (.int (nI (tm / 12 % 14))), some (.int (nI (tm % 5))), some (.int (absI (nI (tm % 12) - 6) + (sw + cl_s 14 n b))), some (.int (wv + cl_w 14 n b)), some (.int (nI (bvN []))), some (.int (nI (j + 1))), none, none, none, none]) ⟨Or.inr rfl, Or.inr rfl, Or.inr rfl, Or.inr rfl, Or.inr rfl, Or.inr ?_, Or.inr ?_, Or.inr ?_, Or.inr rfl, Or.inl rfl, Or.inl rfl, Or.inl rfl, Or.inl rfl, trivial⟩ (ih (j + 1) [] (sw + cl_s 14 n b) (wv + cl_w 14 n b) (by omega) hR1 hw' (by simp) hev)
      · rw [Int32.add_assoc]; cases b <;> rfl
      · cases b <;> rfl
      · rfl
set_option maxRecDepth 100000 in
set_option maxHeartbeats 4000000 in
theorem s_makeTide (l : Launch) (g : zG) (h : Hp) (k : Nat) (tx : Value) (sf nf tf : Nat → Int32) (pl : Int32) (tm : Nat) (Q : pP) (htm : tm < 840) (hQ : qI sf nf Q) : Sp l g yX1_makeTide cX1_makeTide 13 none (rmz 2) [.ref k, .int (nI tm)] (hK g h k tx sf nf (nI Q.length) tf pl) (zV fun h' => h' = hK g h k tx sf nf (nI Q.length) (upd tf tm (tdV tm Q)) pl) := by
  refine Sp.of [some (.ref k), some (.int (nI tm)), none, none, none, none, none, none, none, none, none, none, none] (by decide) (Nat.le_of_ble_eq_true rfl) rfl rfl ?_
  rintro X rfl hr rfl B
  show AW X 0 0 0 _ _ _ _
  have h0 := mt_loop h k tx sf nf tf pl tm Q htm hQ hr B Q 0 [] 0 0 (Nat.zero_add _) (fun i hi => by rw [Nat.zero_add]; exact hQ.2.2 i hi) hQ.2.1 (by simp) rfl
  rw [Int32.add_zero] at h0
  refine aw_iload_n B 1 rfl dX1_makeTide_0 rfl ?_
  refine aw_if_lt B 11 dX1_makeTide_1 (fun c1 => absurd c1 (Int32.not_lt.mpr (nI_pos' (by omega)))) (fun c1 => ?_)
  refine aw_iload_n B 1 rfl dX1_makeTide_4 rfl ?_
  refine aw_sipush B 840 (by decide) dX1_makeTide_5 ?_
  refine aw_icmp_lt B 12 dX1_makeTide_8 (fun c8 => ?_) (fun c8 => absurd (show nI tm < nI 840 from nI_lt htm (by decide)) c8)
  refine aw_iload_n B 1 rfl dX1_makeTide_12 rfl ?_
  refine aw_bipush B 12 (by decide) dX1_makeTide_13 ?_
  refine aw_irem B (by decide) dX1_makeTide_15 ?_
  rw [show nI tm - nI tm / 12 * 12 = nI (tm % 12) from pk_rem (by omega) (by decide) (by decide)]
  refine aw_istore2 B dX1_makeTide_16 ?_
  refine aw_iload_n B 1 rfl dX1_makeTide_17 rfl ?_
  refine aw_bipush B 12 (by decide) dX1_makeTide_18 ?_
  refine aw_idiv B (by decide) dX1_makeTide_20 ?_
  rw [show nI tm / 12 = nI (tm / 12) from pk_div (by omega) (by decide) (by decide)]
  refine aw_bipush B 14 (by decide) dX1_makeTide_21 ?_
  refine aw_irem B (by decide) dX1_makeTide_23 ?_
  rw [show nI (tm / 12) - nI (tm / 12) / 14 * 14 = nI (tm / 12 % 14) from pk_rem (by omega) (by decide) (by decide)]
  refine aw_istore3 B dX1_makeTide_24 ?_
  refine aw_iload_n B 1 rfl dX1_makeTide_25 rfl ?_
  refine aw_iconst B 5 (by decide) dX1_makeTide_26 ?_
  refine aw_irem B (by decide) dX1_makeTide_27 ?_
  rw [show nI tm - nI tm / 5 * 5 = nI (tm % 5) from pk_rem (by omega) (by decide) (by decide)]
  refine aw_istore4 B dX1_makeTide_28 ?_
  refine aw_iload_n B 2 rfl dX1_makeTide_30 rfl ?_
  refine aw_bipush B 6 (by decide) dX1_makeTide_31 ?_
  refine aw_isub B dX1_makeTide_33 ?_
  refine aw_mabs B ma_X1_48 dX1_makeTide_34 (Nat.le_of_ble_eq_true rfl) (mR2 hr (by omega)) ?_
  rw [abs_eq]
  refine aw_istore5 B dX1_makeTide_37 ?_
  refine aw_iconst B 0 (by decide) dX1_makeTide_39 ?_
  refine aw_istore6 B dX1_makeTide_40 ?_
  refine aw_iconst B 0 (by decide) dX1_makeTide_42 ?_
  refine aw_istore7 B dX1_makeTide_43 ?_
  refine aw_iconst B 0 (by decide) dX1_makeTide_45 ?_
  refine aw_istore8 B dX1_makeTide_46 ?_
  exact h0
