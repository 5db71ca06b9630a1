theorem ci_m1 : Int32.ofInt (-1) = (-1) := by decide +kernel
theorem ci_0 : Int32.ofInt 0 = nI 0 := by decide +kernel
theorem ci_1 : Int32.ofInt 1 = nI 1 := by decide +kernel
theorem ci_2 : Int32.ofInt 2 = nI 2 := by decide +kernel
theorem ci_3 : Int32.ofInt 3 = nI 3 := by decide +kernel
theorem ci_4 : Int32.ofInt 4 = nI 4 := by decide +kernel
theorem ci_5 : Int32.ofInt 5 = nI 5 := by decide +kernel
theorem bp_m20 : (Int8.ofInt (-20)).toInt32 = (-20) := by decide +kernel
theorem bp_m6 : (Int8.ofInt (-6)).toInt32 = (-6) := by decide +kernel
theorem bp_m5 : (Int8.ofInt (-5)).toInt32 = (-5) := by decide +kernel
theorem bp_m4 : (Int8.ofInt (-4)).toInt32 = (-4) := by decide +kernel
theorem bp_m3 : (Int8.ofInt (-3)).toInt32 = (-3) := by decide +kernel
theorem bp_m2 : (Int8.ofInt (-2)).toInt32 = (-2) := by decide +kernel
theorem bp_6 : (Int8.ofInt 6).toInt32 = nI 6 := by decide +kernel
theorem bp_7 : (Int8.ofInt 7).toInt32 = nI 7 := by decide +kernel
theorem bp_8 : (Int8.ofInt 8).toInt32 = nI 8 := by decide +kernel
theorem bp_9 : (Int8.ofInt 9).toInt32 = nI 9 := by decide +kernel
theorem bp_10 : (Int8.ofInt 10).toInt32 = nI 10 := by decide +kernel
theorem bp_16 : (Int8.ofInt 16).toInt32 = nI 16 := by decide +kernel
theorem bp_17 : (Int8.ofInt 17).toInt32 = nI 17 := by decide +kernel
theorem bp_20 : (Int8.ofInt 20).toInt32 = nI 20 := by decide +kernel
theorem bp_27 : (Int8.ofInt 27).toInt32 = nI 27 := by decide +kernel
theorem bp_33 : (Int8.ofInt 33).toInt32 = nI 33 := by decide +kernel
theorem bp_36 : (Int8.ofInt 36).toInt32 = nI 36 := by decide +kernel
theorem bp_46 : (Int8.ofInt 46).toInt32 = nI 46 := by decide +kernel
theorem bp_48 : (Int8.ofInt 48).toInt32 = nI 48 := by decide +kernel
theorem bp_55 : (Int8.ofInt 55).toInt32 = nI 55 := by decide +kernel
theorem bp_60 : (Int8.ofInt 60).toInt32 = nI 60 := by decide +kernel
theorem bp_63 : (Int8.ofInt 63).toInt32 = nI 63 := by decide +kernel
theorem bp_65 : (Int8.ofInt 65).toInt32 = nI 65 := by decide +kernel
theorem bp_70 : (Int8.ofInt 70).toInt32 = nI 70 := by decide +kernel
theorem bp_74 : (Int8.ofInt 74).toInt32 = nI 74 := by decide +kernel
theorem bp_75 : (Int8.ofInt 75).toInt32 = nI 75 := by decide +kernel
theorem bp_97 : (Int8.ofInt 97).toInt32 = nI 97 := by decide +kernel
theorem bp_99 : (Int8.ofInt 99).toInt32 = nI 99 := by decide +kernel
theorem bp_100 : (Int8.ofInt 100).toInt32 = nI 100 := by decide +kernel
theorem bp_104 : (Int8.ofInt 104).toInt32 = nI 104 := by decide +kernel
theorem bp_126 : (Int8.ofInt 126).toInt32 = nI 126 := by decide +kernel
theorem sp_200 : (Int16.ofInt 200).toInt32 = nI 200 := by decide +kernel
theorem sp_256 : (Int16.ofInt 256).toInt32 = nI 256 := by decide +kernel
theorem sp_999 : (Int16.ofInt 999).toInt32 = nI 999 := by decide +kernel
theorem sp_1000 : (Int16.ofInt 1000).toInt32 = nI 1000 := by decide +kernel
theorem sp_9999 : (Int16.ofInt 9999).toInt32 = nI 9999 := by decide +kernel
theorem lc_0 : Int64.ofNat ((0 : Fin 2) : Nat) = (nI 0).toInt64 := by decide +kernel
theorem lc_1 : Int64.ofNat ((1 : Fin 2) : Nat) = (nI 1).toInt64 := by decide +kernel
section BR
variable {l : Launch} {D : gE} {y : MethodName} {cc : ByteArray} {nL : Nat} {rt : Option FieldType} {rm : Room} {Q : Option Value → va_W → Prop} {cells slots pc : Nat} {lv : List (Nat × Value)} {st : List Value} {ws : va_W} {off : Int}
theorem n_icmpeq {a b : Nat} (tgt : Nat) (hd : decode cc pc = .ok (.if_icmp .eq off, 3)) (ht : (pc : Int) + off = (tgt : Int)) (ha : a < 2 ^ 31) (hb : b < 2 ^ 31) (kt : a = b → G l D y cc nL rt rm Q cells slots tgt lv st ws) (kf : ¬ a = b → G l D y cc nL rt rm Q cells slots (pc + 3) lv st ws) : G l D y cc nL rt rm Q cells slots pc lv (.int (nI b) :: .int (nI a) :: st) ws := g_icmpeq tgt hd ht (fun h => kt ((nI_eq ha hb).mp h)) (fun h => kf (fun e => h ((nI_eq ha hb).mpr e)))
theorem z_icmpeq {a b : Int} (tgt : Nat) (hd : decode cc pc = .ok (.if_icmp .eq off, 3)) (ht : (pc : Int) + off = (tgt : Int)) (ha : -2147483648 ≤ a ∧ a < 2147483648) (hb : -2147483648 ≤ b ∧ b < 2147483648) (kt : a = b → G l D y cc nL rt rm Q cells slots tgt lv st ws) (kf : ¬ a = b → G l D y cc nL rt rm Q cells slots (pc + 3) lv st ws) : G l D y cc nL rt rm Q cells slots pc lv (.int (zI b) :: .int (zI a) :: st) ws := g_icmpeq tgt hd ht (fun h => kt ((zI_inj ha hb).mp h)) (fun h => kf (fun e => h ((zI_inj ha hb).mpr e)))
theorem n_icmpne {a b : Nat} (tgt : Nat) (hd : decode cc pc = .ok (.if_icmp .ne off, 3)) (ht : (pc : Int) + off = (tgt : Int)) (ha : a < 2 ^ 31) (hb : b < 2 ^ 31) (kt : ¬ a = b → G l D y cc nL rt rm Q cells slots tgt lv st ws) (kf : a = b → G l D y cc nL rt rm Q cells slots (pc + 3) lv st ws) : G l D y cc nL rt rm Q cells slots pc lv (.int (nI b) :: .int (nI a) :: st) ws := g_icmpne tgt hd ht (fun h => kt (fun e => h ((nI_eq ha hb).mpr e))) (fun h => kf ((nI_eq ha hb).mp h))
theorem z_icmpne {a b : Int} (tgt : Nat) (hd : decode cc pc = .ok (.if_icmp .ne off, 3)) (ht : (pc : Int) + off = (tgt : Int)) (ha : -2147483648 ≤ a ∧ a < 2147483648) (hb : -2147483648 ≤ b ∧ b < 2147483648) (kt : ¬ a = b → G l D y cc nL rt rm Q cells slots tgt lv st ws) (kf : a = b → G l D y cc nL rt rm Q cells slots (pc + 3) lv st ws) : G l D y cc nL rt rm Q cells slots pc lv (.int (zI b) :: .int (zI a) :: st) ws := g_icmpne tgt hd ht (fun h => kt (fun e => h ((zI_inj ha hb).mpr e))) (fun h => kf ((zI_inj ha hb).mp h))
theorem n_icmplt {a b : Nat} (tgt : Nat) (hd : decode cc pc = .ok (.if_icmp .lt off, 3)) (ht : (pc : Int) + off = (tgt : Int)) (ha : a < 2 ^ 31) (hb : b < 2 ^ 31) (kt : a < b → G l D y cc nL rt rm Q cells slots tgt lv st ws) (kf : b ≤ a → G l D y cc nL rt rm Q cells slots (pc + 3) lv st ws) : G l D y cc nL rt rm Q cells slots pc lv (.int (nI b) :: .int (nI a) :: st) ws := g_icmplt tgt hd ht (fun h => kt ((nI_ltI ha hb).mp h)) (fun h => kf (by have h2 := mt (nI_ltI ha hb).mpr h; omega))
theorem z_icmplt {a b : Int} (tgt : Nat) (hd : decode cc pc = .ok (.if_icmp .lt off, 3)) (ht : (pc : Int) + off = (tgt : Int)) (ha : -2147483648 ≤ a ∧ a < 2147483648) (hb : -2147483648 ≤ b ∧ b < 2147483648) (kt : a < b → G l D y cc nL rt rm Q cells slots tgt lv st ws) (kf : b ≤ a → G l D y cc nL rt rm Q cells slots (pc + 3) lv st ws) : G l D y cc nL rt rm Q cells slots pc lv (.int (zI b) :: .int (zI a) :: st) ws := g_icmplt tgt hd ht (fun h => kt ((zI_lt ha hb).mp h)) (fun h => kf (by have h2 := mt (zI_lt ha hb).mpr h; omega))
theorem n_icmpge {a b : Nat} (tgt : Nat) (hd : decode cc pc = .ok (.if_icmp .ge off, 3)) (ht : (pc : Int) + off = (tgt : Int)) (ha : a < 2 ^ 31) (hb : b < 2 ^ 31) (kt : b ≤ a → G l D y cc nL rt rm Q cells slots tgt lv st ws) (kf : a < b → G l D y cc nL rt rm Q cells slots (pc + 3) lv st ws) : G l D y cc nL rt rm Q cells slots pc lv (.int (nI b) :: .int (nI a) :: st) ws := g_icmpge tgt hd ht (fun h => kt ((nI_leI hb ha).mp h)) (fun h => kf (by have h2 := mt (nI_leI hb ha).mpr h; omega))
theorem z_icmpge {a b : Int} (tgt : Nat) (hd : decode cc pc = .ok (.if_icmp .ge off, 3)) (ht : (pc : Int) + off = (tgt : Int)) (ha : -2147483648 ≤ a ∧ a < 2147483648) (hb : -2147483648 ≤ b ∧ b < 2147483648) (kt : b ≤ a → G l D y cc nL rt rm Q cells slots tgt lv st ws) (kf : a < b → G l D y cc nL rt rm Q cells slots (pc + 3) lv st ws) : G l D y cc nL rt rm Q cells slots pc lv (.int (zI b) :: .int (zI a) :: st) ws := g_icmpge tgt hd ht (fun h => kt ((zI_le hb ha).mp h)) (fun h => kf (by have h2 := mt (zI_le hb ha).mpr h; omega))
theorem n_icmpgt {a b : Nat} (tgt : Nat) (hd : decode cc pc = .ok (.if_icmp .gt off, 3)) (ht : (pc : Int) + off = (tgt : Int)) (ha : a < 2 ^ 31) (hb : b < 2 ^ 31) (kt : b < a → G l D y cc nL rt rm Q cells slots tgt lv st ws) (kf : a ≤ b → G l D y cc nL rt rm Q cells slots (pc + 3) lv st ws) : G l D y cc nL rt rm Q cells slots pc lv (.int (nI b) :: .int (nI a) :: st) ws := g_icmpgt tgt hd ht (fun h => kt ((nI_ltI hb ha).mp h)) (fun h => kf (by have h2 := mt (nI_ltI hb ha).mpr h; omega))
theorem z_icmpgt {a b : Int} (tgt : Nat) (hd : decode cc pc = .ok (.if_icmp .gt off, 3)) (ht : (pc : Int) + off = (tgt : Int)) (ha : -2147483648 ≤ a ∧ a < 2147483648) (hb : -2147483648 ≤ b ∧ b < 2147483648) (kt : b < a → G l D y cc nL rt rm Q cells slots tgt lv st ws) (kf : a ≤ b → G l D y cc nL rt rm Q cells slots (pc + 3) lv st ws) : G l D y cc nL rt rm Q cells slots pc lv (.int (zI b) :: .int (zI a) :: st) ws := g_icmpgt tgt hd ht (fun h => kt ((zI_lt hb ha).mp h)) (fun h => kf (by have h2 := mt (zI_lt hb ha).mpr h; omega))
theorem n_icmple {a b : Nat} (tgt : Nat) (hd : decode cc pc = .ok (.if_icmp .le off, 3)) (ht : (pc : Int) + off = (tgt : Int)) (ha : a < 2 ^ 31) (hb : b < 2 ^ 31) (kt : a ≤ b → G l D y cc nL rt rm Q cells slots tgt lv st ws) (kf : b < a → G l D y cc nL rt rm Q cells slots (pc + 3) lv st ws) : G l D y cc nL rt rm Q cells slots pc lv (.int (nI b) :: .int (nI a) :: st) ws := g_icmple tgt hd ht (fun h => kt ((nI_leI ha hb).mp h)) (fun h => kf (by have h2 := mt (nI_leI ha hb).mpr h; omega))
theorem z_icmple {a b : Int} (tgt : Nat) (hd : decode cc pc = .ok (.if_icmp .le off, 3)) (ht : (pc : Int) + off = (tgt : Int)) (ha : -2147483648 ≤ a ∧ a < 2147483648) (hb : -2147483648 ≤ b ∧ b < 2147483648) (kt : a ≤ b → G l D y cc nL rt rm Q cells slots tgt lv st ws) (kf : b < a → G l D y cc nL rt rm Q cells slots (pc + 3) lv st ws) : G l D y cc nL rt rm Q cells slots pc lv (.int (zI b) :: .int (zI a) :: st) ws := g_icmple tgt hd ht (fun h => kt ((zI_le ha hb).mp h)) (fun h => kf (by have h2 := mt (zI_le ha hb).mpr h; omega))
theorem n_ifeq {a : Nat} (tgt : Nat) (hd : decode cc pc = .ok (.ifCond .eq off, 3)) (ht : (pc : Int) + off = (tgt : Int)) (ha : a < 2 ^ 31) (kt : a = 0 → G l D y cc nL rt rm Q cells slots tgt lv st ws) (kf : ¬ a = 0 → G l D y cc nL rt rm Q cells slots (pc + 3) lv st ws) : G l D y cc nL rt rm Q cells slots pc lv (.int (nI a) :: st) ws := g_ifeq tgt hd ht (fun h => kt ((nI_eq ha (show (0 : Nat) < 2 ^ 31 by decide)).mp h)) (fun h => kf (fun e => h ((nI_eq ha (show (0 : Nat) < 2 ^ 31 by decide)).mpr e)))
theorem n_ifne {a : Nat} (tgt : Nat) (hd : decode cc pc = .ok (.ifCond .ne off, 3)) (ht : (pc : Int) + off = (tgt : Int)) (ha : a < 2 ^ 31) (kt : ¬ a = 0 → G l D y cc nL rt rm Q cells slots tgt lv st ws) (kf : a = 0 → G l D y cc nL rt rm Q cells slots (pc + 3) lv st ws) : G l D y cc nL rt rm Q cells slots pc lv (.int (nI a) :: st) ws := g_ifne tgt hd ht (fun h => kt (fun e => h ((nI_eq ha (show (0 : Nat) < 2 ^ 31 by decide)).mpr e))) (fun h => kf ((nI_eq ha (show (0 : Nat) < 2 ^ 31 by decide)).mp h))
theorem n_ifgt {a : Nat} (tgt : Nat) (hd : decode cc pc = .ok (.ifCond .gt off, 3)) (ht : (pc : Int) + off = (tgt : Int)) (ha : a < 2 ^ 31) (kt : 0 < a → G l D y cc nL rt rm Q cells slots tgt lv st ws) (kf : a ≤ 0 → G l D y cc nL rt rm Q cells slots (pc + 3) lv st ws) : G l D y cc nL rt rm Q cells slots pc lv (.int (nI a) :: st) ws := g_ifgt tgt hd ht (fun h => kt ((nI_ltI (show (0 : Nat) < 2 ^ 31 by decide) ha).mp h)) (fun h => kf (by have h2 := mt (nI_ltI (show (0 : Nat) < 2 ^ 31 by decide) ha).mpr h; omega))
theorem n_ifle {a : Nat} (tgt : Nat) (hd : decode cc pc = .ok (.ifCond .le off, 3)) (ht : (pc : Int) + off = (tgt : Int)) (ha : a < 2 ^ 31) (kt : a ≤ 0 → G l D y cc nL rt rm Q cells slots tgt lv st ws) (kf : 0 < a → G l D y cc nL rt rm Q cells slots (pc + 3) lv st ws) : G l D y cc nL rt rm Q cells slots pc lv (.int (nI a) :: st) ws := g_ifle tgt hd ht (fun h => kt ((nI_leI ha (show (0 : Nat) < 2 ^ 31 by decide)).mp h)) (fun h => kf (by have h2 := mt (nI_leI ha (show (0 : Nat) < 2 ^ 31 by decide)).mpr h; omega))
theorem z_ifeq {a : Int} (tgt : Nat) (hd : decode cc pc = .ok (.ifCond .eq off, 3)) (ht : (pc : Int) + off = (tgt : Int)) (ha : -2147483648 ≤ a ∧ a < 2147483648) (kt : a = 0 → G l D y cc nL rt rm Q cells slots tgt lv st ws) (kf : ¬ a = 0 → G l D y cc nL rt rm Q cells slots (pc + 3) lv st ws) : G l D y cc nL rt rm Q cells slots pc lv (.int (zI a) :: st) ws := by
  have hz0 : (-2147483648 : Int) ≤ 0 ∧ (0 : Int) < 2147483648 := by omega
  exact g_ifeq tgt hd ht (fun h => kt ((zI_inj ha hz0).mp h)) (fun h => kf (fun e => h ((zI_inj ha hz0).mpr e)))
theorem z_ifne {a : Int} (tgt : Nat) (hd : decode cc pc = .ok (.ifCond .ne off, 3)) (ht : (pc : Int) + off = (tgt : Int)) (ha : -2147483648 ≤ a ∧ a < 2147483648) (kt : ¬ a = 0 → G l D y cc nL rt rm Q cells slots tgt lv st ws) (kf : a = 0 → G l D y cc nL rt rm Q cells slots (pc + 3) lv st ws) : G l D y cc nL rt rm Q cells slots pc lv (.int (zI a) :: st) ws := by
  have hz0 : (-2147483648 : Int) ≤ 0 ∧ (0 : Int) < 2147483648 := by omega
  exact g_ifne tgt hd ht (fun h => kt (fun e => h ((zI_inj ha hz0).mpr e))) (fun h => kf ((zI_inj ha hz0).mp h))
theorem z_iflt {a : Int} (tgt : Nat) (hd : decode cc pc = .ok (.ifCond .lt off, 3)) (ht : (pc : Int) + off = (tgt : Int)) (ha : -2147483648 ≤ a ∧ a < 2147483648) (kt : a < 0 → G l D y cc nL rt rm Q cells slots tgt lv st ws) (kf : 0 ≤ a → G l D y cc nL rt rm Q cells slots (pc + 3) lv st ws) : G l D y cc nL rt rm Q cells slots pc lv (.int (zI a) :: st) ws := by
  have hz0 : (-2147483648 : Int) ≤ 0 ∧ (0 : Int) < 2147483648 := by omega
  exact g_iflt tgt hd ht (fun h => kt ((zI_lt ha hz0).mp h)) (fun h => kf (by have h2 := mt (zI_lt ha hz0).mpr h; omega))
theorem z_ifge {a : Int} (tgt : Nat) (hd : decode cc pc = .ok (.ifCond .ge off, 3)) (ht : (pc : Int) + off = (tgt : Int)) (ha : -2147483648 ≤ a ∧ a < 2147483648) (kt : 0 ≤ a → G l D y cc nL rt rm Q cells slots tgt lv st ws) (kf : a < 0 → G l D y cc nL rt rm Q cells slots (pc + 3) lv st ws) : G l D y cc nL rt rm Q cells slots pc lv (.int (zI a) :: st) ws := by
  have hz0 : (-2147483648 : Int) ≤ 0 ∧ (0 : Int) < 2147483648 := by omega
  exact g_ifge tgt hd ht (fun h => kt ((zI_le hz0 ha).mp h)) (fun h => kf (by have h2 := mt (zI_le hz0 ha).mpr h; omega))
theorem z_ifgt {a : Int} (tgt : Nat) (hd : decode cc pc = .ok (.ifCond .gt off, 3)) (ht : (pc : Int) + off = (tgt : Int)) (ha : -2147483648 ≤ a ∧ a < 2147483648) (kt : 0 < a → G l D y cc nL rt rm Q cells slots tgt lv st ws) (kf : a ≤ 0 → G l D y cc nL rt rm Q cells slots (pc + 3) lv st ws) : G l D y cc nL rt rm Q cells slots pc lv (.int (zI a) :: st) ws := by
  have hz0 : (-2147483648 : Int) ≤ 0 ∧ (0 : Int) < 2147483648 := by omega
  exact g_ifgt tgt hd ht (fun h => kt ((zI_lt hz0 ha).mp h)) (fun h => kf (by have h2 := mt (zI_lt hz0 ha).mpr h; omega))
theorem z_ifle {a : Int} (tgt : Nat) (hd : decode cc pc = .ok (.ifCond .le off, 3)) (ht : (pc : Int) + off = (tgt : Int)) (ha : -2147483648 ≤ a ∧ a < 2147483648) (kt : a ≤ 0 → G l D y cc nL rt rm Q cells slots tgt lv st ws) (kf : 0 < a → G l D y cc nL rt rm Q cells slots (pc + 3) lv st ws) : G l D y cc nL rt rm Q cells slots pc lv (.int (zI a) :: st) ws := by
  have hz0 : (-2147483648 : Int) ≤ 0 ∧ (0 : Int) < 2147483648 := by omega
  exact g_ifle tgt hd ht (fun h => kt ((zI_le ha hz0).mp h)) (fun h => kf (by have h2 := mt (zI_le ha hz0).mpr h; omega))
theorem n_iflt {a : Nat} (hd : decode cc pc = .ok (.ifCond .lt off, 3)) {tgt : Nat} (ht : (pc : Int) + off = (tgt : Int)) (ha : a < 2 ^ 31) (kf : G l D y cc nL rt rm Q cells slots (pc + 3) lv st ws) : G l D y cc nL rt rm Q cells slots pc lv (.int (nI a) :: st) ws := g_iflt tgt hd ht (fun h => absurd h (nI_pos ha)) (fun _ => kf)
theorem n_ifge {a : Nat} (tgt : Nat) (hd : decode cc pc = .ok (.ifCond .ge off, 3)) (ht : (pc : Int) + off = (tgt : Int)) (ha : a < 2 ^ 31) (kt : G l D y cc nL rt rm Q cells slots tgt lv st ws) : G l D y cc nL rt rm Q cells slots pc lv (.int (nI a) :: st) ws := g_ifge tgt hd ht (fun _ => kt) (fun h => absurd (nI_pos' ha) h)
/-- bits -/
theorem b_ifeq {c : Bool} (tgt : Nat) (hd : decode cc pc = .ok (.ifCond .eq off, 3)) (ht : (pc : Int) + off = (tgt : Int)) (kt : c = false → G l D y cc nL rt rm Q cells slots tgt lv st ws) (kf : c = true → G l D y cc nL rt rm Q cells slots (pc + 3) lv st ws) : G l D y cc nL rt rm Q cells slots pc lv (.int (nI (b2n c)) :: st) ws := g_ifeq tgt hd ht (fun h => kt (by cases c; rfl; exact absurd h (by decide +kernel))) (fun h => kf (by cases c; exact absurd rfl h; rfl))
theorem b_ifne {c : Bool} (tgt : Nat) (hd : decode cc pc = .ok (.ifCond .ne off, 3)) (ht : (pc : Int) + off = (tgt : Int)) (kt : c = true → G l D y cc nL rt rm Q cells slots tgt lv st ws) (kf : c = false → G l D y cc nL rt rm Q cells slots (pc + 3) lv st ws) : G l D y cc nL rt rm Q cells slots pc lv (.int (nI (b2n c)) :: st) ws := g_ifne tgt hd ht (fun h => kt (by cases c; exact absurd rfl h; rfl)) (fun h => kf (by cases c; rfl; exact absurd h (by decide +kernel)))
theorem b_icmpne {c : Bool} (tgt : Nat) (hd : decode cc pc = .ok (.if_icmp .ne off, 3)) (ht : (pc : Int) + off = (tgt : Int)) (kt : c = false → G l D y cc nL rt rm Q cells slots tgt lv st ws) (kf : c = true → G l D y cc nL rt rm Q cells slots (pc + 3) lv st ws) : G l D y cc nL rt rm Q cells slots pc lv (.int (nI 1) :: .int (nI (b2n c)) :: st) ws := g_icmpne tgt hd ht (fun h => kt (by cases c; rfl; exact absurd rfl h)) (fun h => kf (by cases c; exact absurd h (by decide +kernel); rfl))
theorem b_icmpeq {c : Bool} (tgt : Nat) (hd : decode cc pc = .ok (.if_icmp .eq off, 3)) (ht : (pc : Int) + off = (tgt : Int)) (kt : c = true → G l D y cc nL rt rm Q cells slots tgt lv st ws) (kf : c = false → G l D y cc nL rt rm Q cells slots (pc + 3) lv st ws) : G l D y cc nL rt rm Q cells slots pc lv (.int (nI 1) :: .int (nI (b2n c)) :: st) ws := g_icmpeq tgt hd ht (fun h => kt (by cases c; exact absurd h (by decide +kernel); rfl)) (fun h => kf (by cases c; rfl; exact absurd rfl h))
/-- a truth value on the stack -/
theorem t_ifeq1 {tgt : Nat} (hd : decode cc pc = .ok (.ifCond .eq off, 3)) (ht : (pc : Int) + off = (tgt : Int)) (kf : G l D y cc nL rt rm Q cells slots (pc + 3) lv st ws) : G l D y cc nL rt rm Q cells slots pc lv (.int (nI 1) :: st) ws := g_ifeq tgt hd ht (fun h => absurd h (by decide +kernel)) (fun _ => kf)
theorem t_ifeq0 (tgt : Nat) (hd : decode cc pc = .ok (.ifCond .eq off, 3)) (ht : (pc : Int) + off = (tgt : Int)) (kt : G l D y cc nL rt rm Q cells slots tgt lv st ws) : G l D y cc nL rt rm Q cells slots pc lv (.int (nI 0) :: st) ws := g_ifeq tgt hd ht (fun _ => kt) (fun h => absurd rfl h)
theorem t_ifne1 (tgt : Nat) (hd : decode cc pc = .ok (.ifCond .ne off, 3)) (ht : (pc : Int) + off = (tgt : Int)) (kt : G l D y cc nL rt rm Q cells slots tgt lv st ws) : G l D y cc nL rt rm Q cells slots pc lv (.int (nI 1) :: st) ws := g_ifne tgt hd ht (fun _ => kt) (fun h => absurd h (by decide +kernel))
theorem t_ifne0 {tgt : Nat} (hd : decode cc pc = .ok (.ifCond .ne off, 3)) (ht : (pc : Int) + off = (tgt : Int)) (kf : G l D y cc nL rt rm Q cells slots (pc + 3) lv st ws) : G l D y cc nL rt rm Q cells slots pc lv (.int (nI 0) :: st) ws := g_ifne tgt hd ht (fun h => absurd rfl h) (fun _ => kf)
end BR
theorem inc_n (k : Nat) : nI k + Int32.ofInt 1 = nI (k + 1) := nI_1 k
theorem dec_n (k : Nat) : nI (k + 1) + Int32.ofInt (-1) = nI k := pk_m1 k
theorem lcmp_lt (x z : Int64) : lg_cmp x z < 0 ↔ x < z := by
  unfold lg_cmp
  split
  · rename_i h; constructor
    · intro h2; exact absurd h2 (by decide +kernel)
    · intro h2; exact absurd (Int64.lt_trans h h2) Int64.lt_irrefl
  · split
    · rename_i h h2; constructor
      · intro h3; exact absurd h3 (by decide +kernel)
      · intro h3; rw [h2] at h3; exact absurd h3 Int64.lt_irrefl
    · rename_i h h2; constructor
      · intro _; have h : ¬ z < x := h; rw [fa_lt64] at h ⊢; rw [fa_eq64] at h2; omega
      · intro _; decide +kernel
theorem lcmp_gt (x z : Int64) : 0 < lg_cmp x z ↔ z < x := by
  unfold lg_cmp
  split
  · rename_i h; exact ⟨fun _ => h, fun _ => by decide +kernel⟩
  · rename_i h
    refine ⟨fun h2 => ?_, fun h2 => absurd h2 h⟩
    split at h2
    · exact absurd h2 (by decide +kernel)
    · exact absurd h2 (by decide +kernel)
