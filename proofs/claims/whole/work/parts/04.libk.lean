section LK
variable {O : OmT} {F : PhT} {R : Room} {nL : Nat} {V : Mem} {pc : Nat} {lv : List (Nat × Sv)} {st : List Sv} {own : String} {cc : ByteArray} {rt : Option FieldType} {Ts : List Cond}
theorem j_top {a b : Int} (h : a = b) (k : J O F R nL V pc lv (si b :: st)) : J O F R nL V pc lv (si a :: st) := by rw [h]; exact k
theorem j_pick {lv' : List (Nat × Sv)} (ks : List Nat) (h : ks.filterMap (fun k => lv[k]?) = lv') (k : J O F R nL V pc lv' st) : J O F R nL V pc lv st := by
  refine j_sub (fun q hq => ?_) k
  rw [← h] at hq
  obtain ⟨i, -, hi⟩ := List.mem_filterMap.mp hq
  exact List.mem_of_getElem? hi
theorem j_lv {lv' : List (Nat × Sv)} (h : lv = lv') (k : J O F R nL V pc lv' st) : J O F R nL V pc lv st := by rw [h]; exact k
def bI (b : Bool) : Int := if b then 1 else 0
theorem bI_or (b : Bool) : bI b = 0 ∨ bI b = 1 := by cases b <;> simp [bI]
theorem bI_rg (b : Bool) : -2147483648 ≤ bI b ∧ bI b < 2147483648 := by cases b <;> simp [bI]
theorem bI_0 (b : Bool) : bI b = 0 ↔ b = false := by cases b <;> simp [bI]
theorem bI_1 (b : Bool) : bI b = 1 ↔ b = true := by cases b <;> simp [bI]
theorem bI_t : bI true = 1 := rfl
theorem bI_f : bI false = 0 := rfl
theorem j_ifb_eq (C : cx O F own cc nL rt Ts) {b : Bool} {off : Int} {tgt : Nat} (hd : decode cc pc = .ok (.ifCond .eq off, 3)) (ht : (pc : Int) + off = (tgt : Int)) (kt : b = false → J O F R nL V tgt lv st) (kf : b = true → J O F R nL V (pc + 3) lv st) : J O F R nL V pc lv (si (bI b) :: st) :=
  j_if_eq C hd ht (bI_rg b) (fun h => kt ((bI_0 b).mp h)) (fun h => kf (by cases b with | true => rfl | false => exact absurd rfl h))
theorem j_ifb_ne (C : cx O F own cc nL rt Ts) {b : Bool} {off : Int} {tgt : Nat} (hd : decode cc pc = .ok (.ifCond .ne off, 3)) (ht : (pc : Int) + off = (tgt : Int)) (kt : b = true → J O F R nL V tgt lv st) (kf : b = false → J O F R nL V (pc + 3) lv st) : J O F R nL V pc lv (si (bI b) :: st) :=
  j_if_ne C hd ht (bI_rg b) (fun h => kt (by cases b with | true => rfl | false => exact absurd rfl h)) (fun h => kf ((bI_0 b).mp h))
-- bits and division, as the machine does them
def bAnd (a b : Int) : Int := (iI a &&& iI b).toInt
def bOr (a b : Int) : Int := (iI a ||| iI b).toInt
def bXor (a b : Int) : Int := (iI a ^^^ iI b).toInt
def bShl (a b : Int) : Int := (iI a <<< (iI b &&& 31)).toInt
def bShr (a b : Int) : Int := (iI a >>> (iI b &&& 31)).toInt
def bUshr (a b : Int) : Int := (((iI a).toUInt32 >>> ((iI b).toUInt32 &&& Int32.toUInt32 31)).toInt32).toInt
def bDiv (a b : Int) : Int := (iI a / iI b).toInt
def bRem (a b : Int) : Int := (iI a - iI a / iI b * iI b).toInt
theorem j_iand (C : cx O F own cc nL rt Ts) {a b : Int} (hd : decode cc pc = .ok (.iand, 1)) (k : J O F R nL V (pc + 1) lv (si (bAnd a b) :: st)) : J O F R nL V pc lv (si b :: si a :: st) := fun H locs ls h hl => lv_iand C.1 C.2.1 hd (by have := k H locs ls h hl; rwa [List.map_cons, show tv O (si (bAnd a b)) = .int (iI a &&& iI b) from congrArg Value.int (iI_of _)] at this)
theorem j_ior (C : cx O F own cc nL rt Ts) {a b : Int} (hd : decode cc pc = .ok (.ior, 1)) (k : J O F R nL V (pc + 1) lv (si (bOr a b) :: st)) : J O F R nL V pc lv (si b :: si a :: st) := fun H locs ls h hl => lv_ior C.1 C.2.1 hd (by have := k H locs ls h hl; rwa [List.map_cons, show tv O (si (bOr a b)) = .int (iI a ||| iI b) from congrArg Value.int (iI_of _)] at this)
theorem j_ixor (C : cx O F own cc nL rt Ts) {a b : Int} (hd : decode cc pc = .ok (.ixor, 1)) (k : J O F R nL V (pc + 1) lv (si (bXor a b) :: st)) : J O F R nL V pc lv (si b :: si a :: st) := fun H locs ls h hl => lv_ixor C.1 C.2.1 hd (by have := k H locs ls h hl; rwa [List.map_cons, show tv O (si (bXor a b)) = .int (iI a ^^^ iI b) from congrArg Value.int (iI_of _)] at this)
theorem j_ishl (C : cx O F own cc nL rt Ts) {a b : Int} (hd : decode cc pc = .ok (.ishl, 1)) (k : J O F R nL V (pc + 1) lv (si (bShl a b) :: st)) : J O F R nL V pc lv (si b :: si a :: st) := fun H locs ls h hl => lv_ishl C.1 C.2.1 hd (by have := k H locs ls h hl; rwa [List.map_cons, show tv O (si (bShl a b)) = .int (iI a <<< (iI b &&& 31)) from congrArg Value.int (iI_of _)] at this)
theorem j_ishr (C : cx O F own cc nL rt Ts) {a b : Int} (hd : decode cc pc = .ok (.ishr, 1)) (k : J O F R nL V (pc + 1) lv (si (bShr a b) :: st)) : J O F R nL V pc lv (si b :: si a :: st) := fun H locs ls h hl => lv_ishr C.1 C.2.1 hd (by have := k H locs ls h hl; rwa [List.map_cons, show tv O (si (bShr a b)) = .int (iI a >>> (iI b &&& 31)) from congrArg Value.int (iI_of _)] at this)
theorem j_iushr (C : cx O F own cc nL rt Ts) {a b : Int} (hd : decode cc pc = .ok (.iushr, 1)) (k : J O F R nL V (pc + 1) lv (si (bUshr a b) :: st)) : J O F R nL V pc lv (si b :: si a :: st) := fun H locs ls h hl => lv_iushr C.1 C.2.1 hd (by show _ = iI (bUshr a b); exact (iI_of _).symm) (k H locs ls h hl)
theorem iI_ne0 {b : Int} (hr : -2147483648 ≤ b ∧ b < 2147483648) (hb : b ≠ 0) : ¬ iI b = 0 := fun h => hb ((iI_eq hr (by decide)).mp (h.trans iI_0.symm))
theorem j_idiv (C : cx O F own cc nL rt Ts) {a b : Int} (hd : decode cc pc = .ok (.idiv, 1)) (hr : -2147483648 ≤ b ∧ b < 2147483648) (hb : b ≠ 0) (k : J O F R nL V (pc + 1) lv (si (bDiv a b) :: st)) : J O F R nL V pc lv (si b :: si a :: st) := fun H locs ls h hl => lv_idiv C.1 C.2.1 hd (iI_ne0 hr hb) (by have := k H locs ls h hl; rwa [List.map_cons, show tv O (si (bDiv a b)) = .int (iI a / iI b) from congrArg Value.int (iI_of _)] at this)
theorem j_irem (C : cx O F own cc nL rt Ts) {a b : Int} (hd : decode cc pc = .ok (.irem, 1)) (hr : -2147483648 ≤ b ∧ b < 2147483648) (hb : b ≠ 0) (k : J O F R nL V (pc + 1) lv (si (bRem a b) :: st)) : J O F R nL V pc lv (si b :: si a :: st) := fun H locs ls h hl => lv_irem C.1 C.2.1 hd (iI_ne0 hr hb) (by have := k H locs ls h hl; rwa [List.map_cons, show tv O (si (bRem a b)) = .int (iI a - iI a / iI b * iI b) from congrArg Value.int (iI_of _)] at this)
end LK
theorem en_0 (O : OmT) (r : Nat → Int) : en O 0 r = .inr (5, [.ref (O.2.2.2.2 1), .ref (O.2.2.2.2 4), .ref (O.2.2.2.2 8), .ref (O.2.2.2.2 11), .ref (O.2.2.2.2 15), .ref (O.2.2.2.2 65), .int (iI (r 6))]) := rfl
theorem en_4 (O : OmT) (r : Nat → Int) : en O 4 r = .inr (3, [.ref (O.2.2.2.2 1), .ref (O.2.2.2.2 5), .ref (O.2.2.2.2 6), .ref (O.2.2.2.2 7)]) := rfl
theorem en_8 (O : OmT) (r : Nat → Int) : en O 8 r = .inr (2, [.ref (O.2.2.2.2 1), .ref (O.2.2.2.2 4), .ref (O.2.2.2.2 9), .ref (O.2.2.2.2 10), .int (iI (r 4)), .int (iI (r 5)), .int (iI (r 6)), .int (iI (r 7)), .int (iI (r 8)), .int (iI (r 9)), .int (iI (r 10)), .int (iI (r 11)), .int (iI (r 12)), .int (iI (r 13)), .int (iI (r 14)), .int (iI (r 15)), .int (iI (r 16))]) := rfl
theorem en_11 (O : OmT) (r : Nat → Int) : en O 11 r = .inr (0, [.ref (O.2.2.2.2 12), .ref (O.2.2.2.2 13), .ref (O.2.2.2.2 14), .int (iI (r 3))]) := rfl
theorem en_15 (O : OmT) (r : Nat → Int) : en O 15 r = .inr (4, [.ref (O.2.2.2.2 16), .int (iI (r 1)), .int (iI (r 2))]) := rfl
theorem en_16 (O : OmT) (r : Nat → Int) : en O 16 r = .inl (O.2.2.2.1, 16, .inr (.inr (.inr (.inr (fun i => some (O.2.2.2.2 (17 + 3 * i))))))) := rfl
theorem en_65 (O : OmT) (r : Nat → Int) : en O 65 r = .inl (O.2.2.2.1, 2, .inr (.inr (.inr (.inr (fun i => some (O.2.2.2.2 (66 + 3 * i))))))) := rfl
theorem en_72 (O : OmT) (r : Nat → Int) : en O 72 r = .inr (6, [.ref (O.2.2.2.2 73), .ref (O.2.2.2.2 74), .int (iI (r 2)), .int (iI (r 3)), .ref (O.2.2.2.2 75), .ref (O.2.2.2.2 76), .int (iI (r 6)), .int (iI (r 7)), .ref (O.2.2.2.2 77), .ref (O.2.2.2.2 78), .ref (O.2.2.2.2 79), .int (iI (r 11)), .int (iI (r 12)), .int (iI (r 13)), .ref (O.2.2.2.2 80), .int (iI (r 15)), .int (iI (r 16)), .int (iI (r 17)), .int (iI (r 18)), .int (iI (r 19)), .ref (O.2.2.2.2 81), .int (iI (r 21)), .int (iI (r 22)), .int (iI (r 23)), .int (iI (r 24)), .int (iI (r 25))]) := rfl
theorem en_75 (O : OmT) (r : Nat → Int) : en O 75 r = .inl (O.2.2.1, 2, .inl (fun i => iI (r i))) := rfl
theorem row_2 (O : OmT) : rowI O 2 10 := ⟨by decide, by decide, fun _ => rfl⟩
theorem row_3 (O : OmT) : rowI O 3 10 := ⟨by decide, by decide, fun _ => rfl⟩
theorem row_5 (O : OmT) : rowI O 5 10 := ⟨by decide, by decide, fun _ => rfl⟩
theorem row_6 (O : OmT) : rowI O 6 10 := ⟨by decide, by decide, fun _ => rfl⟩
theorem row_7 (O : OmT) : rowI O 7 10 := ⟨by decide, by decide, fun _ => rfl⟩
theorem row_9 (O : OmT) : rowI O 9 201 := ⟨by decide, by decide, fun _ => rfl⟩
theorem row_10 (O : OmT) : rowI O 10 10 := ⟨by decide, by decide, fun _ => rfl⟩
theorem row_12 (O : OmT) : rowI O 12 20 := ⟨by decide, by decide, fun _ => rfl⟩
theorem row_13 (O : OmT) : rowI O 13 20 := ⟨by decide, by decide, fun _ => rfl⟩
theorem row_14 (O : OmT) : rowI O 14 20 := ⟨by decide, by decide, fun _ => rfl⟩
theorem row_67 (O : OmT) : rowI O 67 10 := ⟨by decide, by decide, fun _ => rfl⟩
theorem row_68 (O : OmT) : rowI O 68 10 := ⟨by decide, by decide, fun _ => rfl⟩
theorem row_70 (O : OmT) : rowI O 70 10 := ⟨by decide, by decide, fun _ => rfl⟩
theorem row_71 (O : OmT) : rowI O 71 10 := ⟨by decide, by decide, fun _ => rfl⟩
theorem row_73 (O : OmT) : rowI O 73 24 := ⟨by decide, by decide, fun _ => rfl⟩
theorem row_74 (O : OmT) : rowI O 74 384 := ⟨by decide, by decide, fun _ => rfl⟩
theorem row_76 (O : OmT) : rowI O 76 50 := ⟨by decide, by decide, fun _ => rfl⟩
theorem row_77 (O : OmT) : rowI O 77 20 := ⟨by decide, by decide, fun _ => rfl⟩
theorem row_78 (O : OmT) : rowI O 78 20 := ⟨by decide, by decide, fun _ => rfl⟩
theorem row_79 (O : OmT) : rowI O 79 20 := ⟨by decide, by decide, fun _ => rfl⟩
theorem row_80 (O : OmT) : rowI O 80 201 := ⟨by decide, by decide, fun _ => rfl⟩
theorem row_81 (O : OmT) : rowI O 81 4000 := ⟨by decide, by decide, fun _ => rfl⟩
