section LZ
variable {O : OmT} {F : PhT} {R : Room} {nL : Nat} {V : Mem} {pc : Nat} {lv : List (Nat × Sv)} {st : List Sv} {own : String} {cc : ByteArray} {rt : Option FieldType} {Ts : List Cond}
theorem iL_ne0 {b : Int} (hb : 0 < b ∧ b < 9223372036854775808) : ¬ iL b = 0 := fun h => by
  have := congrArg Int64.toInt h
  rw [iL_toInt (by omega)] at this
  have z : (0 : Int64).toInt = 0 := by decide
  omega
theorem iL_div {a b : Int} (ha : 0 ≤ a ∧ a < 9223372036854775808) (hb : 0 < b ∧ b < 9223372036854775808) : iL a / iL b = iL (a / b) := by
  apply Int64.toInt_inj.mp
  have h1 : 0 ≤ a / b := Int.ediv_nonneg ha.1 (by omega)
  have h2 : a / b ≤ a := Int.ediv_le_self _ ha.1
  rw [Int64.toInt_div, iL_toInt (by omega), iL_toInt (by omega), iL_toInt (by omega), Int.tdiv_eq_ediv_of_nonneg ha.1]
  exact Int.bmod_eq_of_le (by omega) (by omega)
theorem iL_rem {a b : Int} (ha : 0 ≤ a ∧ a < 9223372036854775808) (hb : 0 < b ∧ b < 9223372036854775808) : iL a - iL a / iL b * iL b = iL (a % b) := by
  rw [iL_div ha hb, iL_mul, show iL a - iL (a / b * b) = iL (a - a / b * b) from (Int64.ofInt_sub _ _).symm]
  congr 1
  have := Int.emod_def a b
  rw [Int.mul_comm b] at this
  omega
theorem iL_31 {a : Int} (ha : 0 ≤ a) : iL a &&& iL 2147483647 = iL (a % 2147483648) := by
  obtain ⟨n, rfl⟩ : ∃ n : Nat, a = (n : Int) := ⟨a.toNat, by omega⟩
  have e1 : iL (n : Int) = Int64.ofNat n := Int64.ofInt_eq_ofNat
  have e2 : iL 2147483647 = Int64.ofNat 2147483647 := rfl
  have e3 : iL ((n : Int) % 2147483648) = Int64.ofNat (n % 2147483648) := by
    rw [show ((n : Int) % 2147483648) = ((n % 2147483648 : Nat) : Int) by omega]
    exact Int64.ofInt_eq_ofNat
  rw [e1, e2, e3]
  apply Int64.toBitVec_inj.mp
  show BitVec.ofNat 64 n &&& BitVec.ofNat 64 2147483647 = BitVec.ofNat 64 (n % 2147483648)
  rw [← BitVec.ofNat_and]
  congr 1
  exact Nat.and_two_pow_sub_one_eq_mod n 31
theorem iL_int {a : Int} (h : 0 ≤ a ∧ a < 2147483648) : (iL a).toInt32 = iI a := by
  apply Int32.toInt_inj.mp
  rw [iI_toInt (by omega), Int64.toInt_toInt32, iL_toInt (by omega)]
  exact Int.bmod_eq_of_le (by omega) (by omega)
theorem j_lrem (C : cx O F own cc nL rt Ts) {a b : Int} (hd : decode cc pc = .ok (.lrem, 1)) (ha : 0 ≤ a ∧ a < 9223372036854775808) (hb : 0 < b ∧ b < 9223372036854775808) (k : J O F R nL V (pc + 1) lv (sl (a % b) :: st)) : J O F R nL V pc lv (sl b :: sl a :: st) := fun H locs ls h hl => lv_lrem C.1 C.2.1 hd (iL_ne0 hb) (by rw [iL_rem ha hb]; exact k H locs ls h hl)
theorem j_land31 (C : cx O F own cc nL rt Ts) {a : Int} (hd : decode cc pc = .ok (.land, 1)) (ha : 0 ≤ a) (k : J O F R nL V (pc + 1) lv (sl (a % 2147483648) :: st)) : J O F R nL V pc lv (sl 2147483647 :: sl a :: st) := fun H locs ls h hl => lv_land C.1 C.2.1 hd (by rw [iL_31 ha]; exact k H locs ls h hl)
theorem j_l2i (C : cx O F own cc nL rt Ts) {a : Int} (hd : decode cc pc = .ok (.l2i, 1)) (ha : 0 ≤ a ∧ a < 2147483648) (k : J O F R nL V (pc + 1) lv (si a :: st)) : J O F R nL V pc lv (sl a :: st) := fun H locs ls h hl => lv_l2i C.1 C.2.1 hd (iL_int ha) (k H locs ls h hl)
end LZ
theorem row_G {O : OmT} {c d : Nat} (h : isGb c = true) (hc : d < 82) (hd : d = c + 1 ∨ d = c + 2) : rowI O d 10 := ⟨hc, by decide, fun r => en_Gx h hd r⟩
