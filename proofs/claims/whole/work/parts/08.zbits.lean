/-! ===== Long.bitCount counts the bits ===== -/
def uB (x : Int64) : Nat := x.toBitVec.toNat
theorem uB_lt (x : Int64) : uB x < 2 ^ 64 := x.toBitVec.isLt
theorem uB_and (x y : Int64) : uB (x &&& y) = uB x &&& uB y := by unfold uB; rw [Int64.toBitVec_and, BitVec.toNat_and]
theorem uB_sub {x y : Int64} (h : uB y ≤ uB x) : uB (x - y) = uB x - uB y := by
  unfold uB; rw [Int64.toBitVec_sub]; exact BitVec.toNat_sub_of_le h
theorem uB_add {x y : Int64} (h : uB x + uB y < 2 ^ 64) : uB (x + y) = uB x + uB y := by
  unfold uB at *; rw [Int64.toBitVec_add, BitVec.toNat_add, Nat.mod_eq_of_lt h]
theorem sh_u : ∀ k, k < 64 → (((nI k).toInt64.toUInt64 &&& Int64.toUInt64 63).toBitVec % 64).toNat = k := by decide +kernel
theorem uB_shr (x : Int64) {k : Nat} (hk : k < 64) : uB (x.toUInt64 >>> ((nI k).toInt64.toUInt64 &&& Int64.toUInt64 63)).toInt64 = uB x / 2 ^ k := by
  unfold uB
  show (x.toUInt64 >>> ((nI k).toInt64.toUInt64 &&& Int64.toUInt64 63)).toBitVec.toNat = _
  rw [UInt64.toBitVec_shiftRight, BitVec.ushiftRight_eq', BitVec.toNat_ushiftRight]
  have h := sh_u k hk
  rw [show (((nI k).toInt64.toUInt64 &&& Int64.toUInt64 63).toBitVec % (64 : BitVec 64)).toNat = k from h, Nat.shiftRight_eq_div_pow]
  rfl
theorem land_byte {d e y z : Nat} (hd : d < 256) (he : e < 256) : (d + 256 * y) &&& (e + 256 * z) = (d &&& e) + 256 * (y &&& z) := by
  have h1 := Nat.and_mod_two_pow (a := d + 256 * y) (b := e + 256 * z) (n := 8)
  have h2 := Nat.and_div_two_pow (a := d + 256 * y) (b := e + 256 * z) (n := 8)
  rw [show (2 : Nat) ^ 8 = 256 from rfl] at h1 h2
  rw [show (d + 256 * y) % 256 = d by omega, show (e + 256 * z) % 256 = e by omega] at h1
  rw [show (d + 256 * y) / 256 = y by omega, show (e + 256 * z) / 256 = z by omega] at h2
  have h3 := Nat.div_add_mod ((d + 256 * y) &&& (e + 256 * z)) 256
  rw [h1, h2] at h3
  omega
/-- a mask of n equal bytes -/
def mB (b : Nat) : Nat → Nat
  | 0 => 0
  | n + 1 => b + 256 * mB b n
def b1 (n x : Nat) : Nat := x - ((x / 2) &&& mB 85 n)
def b2 (n a : Nat) : Nat := (a &&& mB 51 n) + ((a / 4) &&& mB 51 n)
def b4 (n b : Nat) : Nat := (b + b / 16) &&& mB 15 n
def p1 (d : Nat) : Nat := d - ((d / 2) &&& 85)
def p2 (a : Nat) : Nat := (a &&& 51) + ((a / 4) &&& 51)
theorem d55 : ∀ d, d < 256 → ∀ b, b < 2 → (d / 2 + 128 * b) &&& 85 = (d / 2) &&& 85 := by decide +kernel
theorem d33 : ∀ d, d < 256 → ∀ b, b < 4 → (d / 4 + 64 * b) &&& 51 = (d / 4) &&& 51 := by decide +kernel
theorem p1_b : ∀ d, d < 256 → p1 d < 256 ∧ (d / 2) &&& 85 ≤ d := by decide +kernel
theorem p12_b : ∀ d, d < 256 → p2 (p1 d) ≤ 68 ∧ p2 (p1 d) % 16 ≤ 4 := by decide +kernel
theorem b1_byte {d y : Nat} (n : Nat) (hd : d < 256) : b1 (n + 1) (d + 256 * y) = p1 d + 256 * b1 n y := by
  unfold b1 p1
  simp only [mB]
  have e : (d + 256 * y) / 2 = (d / 2 + 128 * (y % 2)) + 256 * (y / 2) := by omega
  rw [e, land_byte (by omega) (by omega), d55 d hd _ (Nat.mod_lt _ (by omega))]
  have h1 := (p1_b d hd).2
  have h2 : (y / 2) &&& mB 85 n ≤ y / 2 := Nat.and_le_left
  omega
theorem b2_byte {d y : Nat} (n : Nat) (hd : d < 256) : b2 (n + 1) (d + 256 * y) = p2 d + 256 * b2 n y := by
  unfold b2 p2
  simp only [mB]
  have e : (d + 256 * y) / 4 = (d / 4 + 64 * (y % 4)) + 256 * (y / 4) := by omega
  rw [e, land_byte hd (by omega), land_byte (by omega) (by omega), d33 d hd _ (Nat.mod_lt _ (by omega))]
  omega
theorem b12_byte {d y : Nat} (n : Nat) (hd : d < 256) : b2 (n + 1) (b1 (n + 1) (d + 256 * y)) = p2 (p1 d) + 256 * b2 n (b1 n y) := by
  rw [b1_byte n hd, b2_byte n (p1_b d hd).1]
theorem b12_low (n y : Nat) : b2 n (b1 n y) % 16 ≤ 4 := by
  cases n with
  | zero => simp [b2, b1, mB]
  | succ n =>
    have h := b12_byte (y := y / 256) n (Nat.mod_lt y (show 0 < 256 by omega))
    rw [show y % 256 + 256 * (y / 256) = y by omega] at h
    rw [h]
    have := (p12_b (y % 256) (Nat.mod_lt _ (by omega))).2
    omega
/-- the bits of x below 2 ^ n, counted -/
def pop (n x : Nat) : Nat := sz (fun i => x / 2 ^ i % 2) n
theorem pop8 : ∀ d, d < 256 → (p2 (p1 d) + p2 (p1 d) / 16) % 16 = pop 8 d := by decide +kernel
theorem land15 (a : Nat) : a &&& 15 = a % 16 := Nat.and_two_pow_sub_one_eq_mod a 4
def bc (n x : Nat) : Nat := b4 n (b2 n (b1 n x))
theorem bc_byte {d y : Nat} (n : Nat) (hd : d < 256) : bc (n + 1) (d + 256 * y) = pop 8 d + 256 * bc n y := by
  unfold bc
  rw [b12_byte n hd]
  unfold b4
  simp only [mB]
  have h1 := p12_b d hd
  have h2 := b12_low n y
  have e : (p2 (p1 d) + 256 * b2 n (b1 n y)) + (p2 (p1 d) + 256 * b2 n (b1 n y)) / 16 = (p2 (p1 d) + p2 (p1 d) / 16 + 16 * (b2 n (b1 n y) % 16)) + 256 * (b2 n (b1 n y) + b2 n (b1 n y) / 16) := by omega
  rw [e, land_byte (by omega) (by omega), land15, ← pop8 d hd]
  omega
theorem pop_le (n x : Nat) : pop n x ≤ n := by
  have := sz_le (f := fun i => x / 2 ^ i % 2) (M := 1) n (fun i _ => by have := Nat.mod_lt (x / 2 ^ i) (show 0 < 2 by omega); omega)
  unfold pop; omega
theorem sz_split (f : Nat → Nat) (a : Nat) : ∀ b, sz f (a + b) = sz f a + sz (fun i => f (a + i)) b
  | 0 => rfl
  | b + 1 => by
    have ih := sz_split f a b
    show sz f (a + b) + f (a + b) = sz f a + (sz (fun i => f (a + i)) b + f (a + b))
    omega
theorem pop_split (a b x : Nat) : pop (a + b) x = pop a x + pop b (x / 2 ^ a) := by
  unfold pop
  rw [sz_split]
  congr 1
  refine sz_congr b (fun i _ => ?_)
  rw [Nat.div_div_eq_div_mul, ← Nat.pow_add]
theorem pop_mod (x : Nat) : pop 8 (x % 256) = pop 8 x := by
  refine sz_congr 8 (fun i hi => ?_)
  rcases (show i = 0 ∨ i = 1 ∨ i = 2 ∨ i = 3 ∨ i = 4 ∨ i = 5 ∨ i = 6 ∨ i = 7 by omega) with e | e | e | e | e | e | e | e <;> subst e <;> simp only [Nat.reducePow] <;> omega
theorem bc_8 (x : Nat) (hx : x < 2 ^ 64) : ∃ c0 c1 c2 c3 c4 c5 c6 c7, (c0 ≤ 8 ∧ c1 ≤ 8 ∧ c2 ≤ 8 ∧ c3 ≤ 8 ∧ c4 ≤ 8 ∧ c5 ≤ 8 ∧ c6 ≤ 8 ∧ c7 ≤ 8) ∧ bc 8 x = c0 + 256 * (c1 + 256 * (c2 + 256 * (c3 + 256 * (c4 + 256 * (c5 + 256 * (c6 + 256 * c7)))))) ∧ c0 + c1 + c2 + c3 + c4 + c5 + c6 + c7 = pop 64 x := by
  have st : ∀ n y, bc (n + 1) y = pop 8 y + 256 * bc n (y / 256) := fun n y => by
    have h := bc_byte (y := y / 256) n (Nat.mod_lt y (show 0 < 256 by omega))
    rw [show y % 256 + 256 * (y / 256) = y by omega, pop_mod] at h
    exact h
  have z0 : ∀ y, bc 0 y = 0 := fun y => by simp [bc, b4, mB]
  refine ⟨pop 8 x, pop 8 (x / 256), pop 8 (x / 256 / 256), pop 8 (x / 256 / 256 / 256), pop 8 (x / 256 / 256 / 256 / 256), pop 8 (x / 256 / 256 / 256 / 256 / 256), pop 8 (x / 256 / 256 / 256 / 256 / 256 / 256), pop 8 (x / 256 / 256 / 256 / 256 / 256 / 256 / 256), ⟨pop_le _ _, pop_le _ _, pop_le _ _, pop_le _ _, pop_le _ _, pop_le _ _, pop_le _ _, pop_le _ _⟩, ?_, ?_⟩
  · rw [st, st, st, st, st, st, st, st, z0]; omega
  · have sp : ∀ b y, pop (8 + b) y = pop 8 y + pop b (y / 256) := fun b y => pop_split 8 b y
    rw [show (64 : Nat) = 8 + (8 + (8 + (8 + (8 + (8 + (8 + 8)))))) from rfl, sp, sp, sp, sp, sp, sp, sp]
    omega
theorem dvm (a Y m : Nat) (h : a < m) : (a + m * Y) / m = Y := by
  rw [Nat.add_mul_div_left _ _ (by omega), Nat.div_eq_of_lt h, Nat.zero_add]
theorem sumb {c0 c1 c2 c3 c4 c5 c6 c7 : Nat} (h0 : c0 ≤ 8) (h1 : c1 ≤ 8) (h2 : c2 ≤ 8) (h3 : c3 ≤ 8) (h4 : c4 ≤ 8) (h5 : c5 ≤ 8) (h6 : c6 ≤ 8) (h7 : c7 ≤ 8) :
    ((c0 + 256 * (c1 + 256 * (c2 + 256 * (c3 + 256 * (c4 + 256 * (c5 + 256 * (c6 + 256 * c7))))))) + (c0 + 256 * (c1 + 256 * (c2 + 256 * (c3 + 256 * (c4 + 256 * (c5 + 256 * (c6 + 256 * c7))))))) / 256 + ((c0 + 256 * (c1 + 256 * (c2 + 256 * (c3 + 256 * (c4 + 256 * (c5 + 256 * (c6 + 256 * c7))))))) + (c0 + 256 * (c1 + 256 * (c2 + 256 * (c3 + 256 * (c4 + 256 * (c5 + 256 * (c6 + 256 * c7))))))) / 256) / 65536 + ((c0 + 256 * (c1 + 256 * (c2 + 256 * (c3 + 256 * (c4 + 256 * (c5 + 256 * (c6 + 256 * c7))))))) + (c0 + 256 * (c1 + 256 * (c2 + 256 * (c3 + 256 * (c4 + 256 * (c5 + 256 * (c6 + 256 * c7))))))) / 256 + ((c0 + 256 * (c1 + 256 * (c2 + 256 * (c3 + 256 * (c4 + 256 * (c5 + 256 * (c6 + 256 * c7))))))) + (c0 + 256 * (c1 + 256 * (c2 + 256 * (c3 + 256 * (c4 + 256 * (c5 + 256 * (c6 + 256 * c7))))))) / 256) / 65536) / 4294967296) % 128 = c0 + c1 + c2 + c3 + c4 + c5 + c6 + c7 := by
  rw [dvm c0 _ 256 (by omega)]
  have e1 : c0 + 256 * (c1 + 256 * (c2 + 256 * (c3 + 256 * (c4 + 256 * (c5 + 256 * (c6 + 256 * c7)))))) + (c1 + 256 * (c2 + 256 * (c3 + 256 * (c4 + 256 * (c5 + 256 * (c6 + 256 * c7)))))) = ((c0 + c1) + 256 * (c1 + c2)) + 65536 * ((c2 + c3) + 256 * (c3 + c4) + 65536 * (c4 + c5) + 16777216 * (c5 + c6) + 4294967296 * (c6 + c7) + 1099511627776 * c7) := by simp only [Nat.mul_add, ← Nat.mul_assoc, Nat.reduceMul]; omega
  rw [e1, dvm _ _ 65536 (by omega)]
  have e2 : ((c0 + c1) + 256 * (c1 + c2)) + 65536 * ((c2 + c3) + 256 * (c3 + c4) + 65536 * (c4 + c5) + 16777216 * (c5 + c6) + 4294967296 * (c6 + c7) + 1099511627776 * c7) + ((c2 + c3) + 256 * (c3 + c4) + 65536 * (c4 + c5) + 16777216 * (c5 + c6) + 4294967296 * (c6 + c7) + 1099511627776 * c7) = ((c0 + c1 + c2 + c3) + 256 * (c1 + c2 + c3 + c4) + 65536 * (c2 + c3 + c4 + c5) + 16777216 * (c3 + c4 + c5 + c6)) + 4294967296 * ((c4 + c5 + c6 + c7) + 256 * (c5 + c6 + c7) + 65536 * (c6 + c7) + 16777216 * c7) := by simp only [Nat.mul_add, ← Nat.mul_assoc, Nat.reduceMul]; omega
  rw [e2, dvm _ _ 4294967296 (by omega)]
  have e3 : ((c0 + c1 + c2 + c3) + 256 * (c1 + c2 + c3 + c4) + 65536 * (c2 + c3 + c4 + c5) + 16777216 * (c3 + c4 + c5 + c6)) + 4294967296 * ((c4 + c5 + c6 + c7) + 256 * (c5 + c6 + c7) + 65536 * (c6 + c7) + 16777216 * c7) + ((c4 + c5 + c6 + c7) + 256 * (c5 + c6 + c7) + 65536 * (c6 + c7) + 16777216 * c7) = (c0 + c1 + c2 + c3 + c4 + c5 + c6 + c7) + 128 * (2 * (c1 + c2 + c3 + c4) + 512 * (c2 + c3 + c4 + c5) + 131072 * (c3 + c4 + c5 + c6) + 33554432 * ((c4 + c5 + c6 + c7) + 256 * (c5 + c6 + c7) + 65536 * (c6 + c7) + 16777216 * c7) + 2 * (c5 + c6 + c7) + 512 * (c6 + c7) + 131072 * c7) := by simp only [Nat.mul_add, ← Nat.mul_assoc, Nat.reduceMul]; omega
  rw [e3, Nat.add_mul_mod_self_left, Nat.mod_eq_of_lt (by omega)]
theorem m55 : uB 6148914691236517205 = mB 85 8 := by decide +kernel
theorem m33 : uB 3689348814741910323 = mB 51 8 := by decide +kernel
theorem m0f : uB 1085102592571150095 = mB 15 8 := by decide +kernel
theorem uB_i32 (x : Int64) : x.toInt32 &&& nI 127 = nI (uB x % 128) := by
  apply Int32.toBitVec_inj.mp
  apply BitVec.eq_of_toNat_eq
  rw [Int32.toBitVec_and, BitVec.toNat_and]
  have h1 : x.toInt32.toBitVec.toNat = uB x % 2 ^ 32 := by
    show (x.toBitVec.signExtend 32).toNat = _
    rw [BitVec.signExtend_eq_setWidth_of_le _ (by omega), BitVec.toNat_setWidth]; rfl
  have h2 : (nI 127).toBitVec.toNat = 127 := by decide
  have h3 : (nI (uB x % 128)).toBitVec.toNat = uB x % 128 := by
    show (BitVec.ofNat 32 (uB x % 128)).toNat = _
    rw [BitVec.toNat_ofNat]; omega
  rw [h1, h2, h3, show (127 : Nat) = 2 ^ 7 - 1 from rfl, Nat.and_two_pow_sub_one_eq_mod]
  omega
theorem b1_le (n x : Nat) : b1 n x ≤ x := Nat.sub_le _ _
theorem bcF_pop (x : Int64) : bcF x = nI (pop 64 (uB x)) := by
  unfold bcF
  obtain ⟨c0, c1, c2, c3, c4, c5, c6, c7, hc, he, hp⟩ := bc_8 (uB x) (uB_lt x)
  have ha : uB (bcA x) = b1 8 (uB x) := by
    unfold bcA
    have h1 : uB ((x.toUInt64 >>> ((nI 1).toInt64.toUInt64 &&& Int64.toUInt64 63)).toInt64 &&& 6148914691236517205) = (uB x / 2) &&& mB 85 8 := by
      rw [uB_and, uB_shr x (by omega), m55]
    rw [uB_sub (by rw [h1]; exact Nat.le_trans Nat.and_le_left (Nat.div_le_self _ _)), h1]; rfl
  generalize bcA x = a at ha ⊢
  have hm : mB 51 8 = 3689348814741910323 := by decide
  have hb : uB (bcB a) = b2 8 (uB a) := by
    unfold bcB
    have h1 : uB ((a.toUInt64 >>> ((nI 2).toInt64.toUInt64 &&& Int64.toUInt64 63)).toInt64 &&& 3689348814741910323) = (uB a / 4) &&& mB 51 8 := by
      rw [uB_and, uB_shr a (by omega), m33]
    have h2 : uB (a &&& 3689348814741910323) = uB a &&& mB 51 8 := by rw [uB_and, m33]
    have h3 : uB a &&& mB 51 8 ≤ mB 51 8 := Nat.and_le_right
    have h4 : (uB a / 4) &&& mB 51 8 ≤ mB 51 8 := Nat.and_le_right
    rw [uB_add (by rw [h1, h2]; omega), h1, h2]; rfl
  generalize bcB a = b at hb ⊢
  have hbb : b2 8 (uB a) ≤ 7378697629483820646 := by
    have h3 : uB a &&& mB 51 8 ≤ mB 51 8 := Nat.and_le_right
    have h4 : (uB a / 4) &&& mB 51 8 ≤ mB 51 8 := Nat.and_le_right
    unfold b2; omega
  have hcc : uB (bcC b) = bc 8 (uB x) := by
    unfold bcC
    have h1 := uB_shr b (k := 4) (by omega)
    rw [uB_and, uB_add (by rw [h1, hb]; omega), h1, m0f, hb, ha]; rfl
  generalize bcC b = c at hcc ⊢
  have hd : uB (bcS 8 c) = uB c + uB c / 256 := by
    unfold bcS
    have h1 := uB_shr c (k := 8) (by omega)
    rw [uB_add (by rw [h1, hcc, he]; omega), h1]
  generalize bcS 8 c = d at hd ⊢
  have hee : uB (bcS 16 d) = uB d + uB d / 65536 := by
    unfold bcS
    have h1 := uB_shr d (k := 16) (by omega)
    rw [uB_add (by rw [h1, hd, hcc, he]; omega), h1]
  generalize bcS 16 d = e at hee ⊢
  have hf : uB (bcS 32 e) = uB e + uB e / 4294967296 := by
    unfold bcS
    have h1 := uB_shr e (k := 32) (by omega)
    rw [uB_add (by rw [h1, hee, hd, hcc, he]; omega), h1]
  rw [uB_i32, hf, hee, hd, hcc, he, ← hp]
  congr 1
  exact sumb hc.1 hc.2.1 hc.2.2.1 hc.2.2.2.1 hc.2.2.2.2.1 hc.2.2.2.2.2.1 hc.2.2.2.2.2.2.1 hc.2.2.2.2.2.2.2
theorem bitL_uB (x : Int64) (r : Nat) : (if bitL x r = true then 1 else 0) = uB x / 2 ^ r % 2 := by
  unfold bitL uB
  rw [BitVec.getLsbD, Nat.testBit_eq_decide_div_mod_eq]
  have := Nat.mod_lt (x.toBitVec.toNat / 2 ^ r) (show 0 < 2 by omega)
  by_cases h : x.toBitVec.toNat / 2 ^ r % 2 = 1
  · rw [if_pos (decide_eq_true h), h]
  · rw [if_neg (by simp [h])]; omega
theorem sg_sz (f : Nat → Nat) : ∀ n, sg f n + f 0 = sz f (n + 1)
  | 0 => by simp [sg, sz]
  | n + 1 => by
    have ih := sg_sz f n
    show sg f n + f (n + 1) + f 0 = sz f (n + 1) + f (n + 1)
    omega
theorem sz_zero {f : Nat → Nat} : ∀ n, (∀ k, k < n → f k = 0) → sz f n = 0
  | 0, _ => rfl
  | n + 1, h => by show sz f n + f n = 0; rw [sz_zero n (fun k hk => h k (by omega)), h n (by omega)]
theorem bcF_cn {x : Int64} (h : inS x) : bcF x = nI (cnS (bitL x)) := by
  rw [bcF_pop]
  congr 1
  unfold cnS
  have no : ∀ r, ¬ (1 ≤ r ∧ r ≤ 40) → uB x / 2 ^ r % 2 = 0 := fun r hr => by
    rw [← bitL_uB, if_neg (fun q => hr (h r q))]
  have e1 : sg (fun r => if bitL x r = true then 1 else 0) 40 = sg (fun r => uB x / 2 ^ r % 2) 40 := sg_congr 40 (fun r _ _ => bitL_uB x r)
  have e2 : sg (fun r => uB x / 2 ^ r % 2) 40 + uB x / 2 ^ 0 % 2 = sz (fun r => uB x / 2 ^ r % 2) 41 := sg_sz (fun r => uB x / 2 ^ r % 2) 40
  have e3 : uB x / 2 ^ 0 % 2 = 0 := no 0 (by omega)
  rw [e3] at e2
  have e4 : pop 64 (uB x) = sz (fun r => uB x / 2 ^ r % 2) 41 + sz (fun i => uB x / 2 ^ (41 + i) % 2) 23 := sz_split (fun r => uB x / 2 ^ r % 2) 41 23
  have e5 : sz (fun i => uB x / 2 ^ (41 + i) % 2) 23 = 0 := sz_zero 23 (fun i _ => no (41 + i) (by omega))
  rw [e4, e5, e1]
  omega
