def it_cg (sp dp n : Int32) (n0 n1 : Nat) : Bool := decide (0 ≤ sp) && decide (0 ≤ dp) && decide (0 ≤ n) && decide (sp.toNatClampNeg + n.toNatClampNeg ≤ n0) && decide (dp.toNatClampNeg + n.toNatClampNeg ≤ n1)
theorem it_cg_a {sp dp n : Int32} {n0 n1 : Nat} (h : it_cg sp dp n n0 n1 = true) : 0 ≤ sp ∧ 0 ≤ dp ∧ 0 ≤ n ∧ sp.toNatClampNeg + n.toNatClampNeg ≤ n0 ∧ dp.toNatClampNeg + n.toNatClampNeg ≤ n1 := by
  simp only [it_cg, Bool.and_eq_true, decide_eq_true_eq] at h
  exact ⟨h.1.1.1.1, h.1.1.1.2, h.1.1.2, h.1.2, h.2⟩
theorem it_cg_1 {sp dp n : Int32} {n0 n1 : Nat} (h : it_cg sp dp n n0 n1 = true) : ¬ sp < 0 := Int32.not_lt.mpr (it_cg_a h).1
theorem it_cg_2 {sp dp n : Int32} {n0 n1 : Nat} (h : it_cg sp dp n n0 n1 = true) : ¬ dp < 0 := Int32.not_lt.mpr (it_cg_a h).2.1
theorem it_cg_3 {sp dp n : Int32} {n0 n1 : Nat} (h : it_cg sp dp n n0 n1 = true) : ¬ n < 0 := Int32.not_lt.mpr (it_cg_a h).2.2.1
theorem it_cg_4 {sp dp n : Int32} {n0 n1 : Nat} (h : it_cg sp dp n n0 n1 = true) : sp.toNatClampNeg + n.toNatClampNeg ≤ n0 := (it_cg_a h).2.2.2.1
theorem it_cg_5 {sp dp n : Int32} {n0 n1 : Nat} (h : it_cg sp dp n n0 n1 = true) : dp.toNatClampNeg + n.toNatClampNeg ≤ n1 := (it_cg_a h).2.2.2.2
theorem kv_bipush_m99 : (Int8.ofInt (-99)).toInt32 = (-99) := by decide
theorem kv_bipush_m4 : (Int8.ofInt (-4)).toInt32 = (-4) := by decide
theorem kv_bipush_m2 : (Int8.ofInt (-2)).toInt32 = (-2) := by decide
theorem kv_bipush_6 : (Int8.ofInt (6)).toInt32 = (6) := by decide
theorem kv_bipush_7 : (Int8.ofInt (7)).toInt32 = (7) := by decide
theorem kv_bipush_8 : (Int8.ofInt (8)).toInt32 = (8) := by decide
theorem kv_bipush_10 : (Int8.ofInt (10)).toInt32 = (10) := by decide
theorem kv_bipush_11 : (Int8.ofInt (11)).toInt32 = (11) := by decide
theorem kv_bipush_12 : (Int8.ofInt (12)).toInt32 = (12) := by decide
theorem kv_bipush_13 : (Int8.ofInt (13)).toInt32 = (13) := by decide
theorem kv_bipush_15 : (Int8.ofInt (15)).toInt32 = (15) := by decide
theorem kv_bipush_16 : (Int8.ofInt (16)).toInt32 = (16) := by decide
theorem kv_bipush_17 : (Int8.ofInt (17)).toInt32 = (17) := by decide
theorem kv_bipush_18 : (Int8.ofInt (18)).toInt32 = (18) := by decide
theorem kv_bipush_20 : (Int8.ofInt (20)).toInt32 = (20) := by decide
theorem kv_bipush_29 : (Int8.ofInt (29)).toInt32 = (29) := by decide
theorem kv_bipush_32 : (Int8.ofInt (32)).toInt32 = (32) := by decide
theorem kv_bipush_40 : (Int8.ofInt (40)).toInt32 = (40) := by decide
theorem kv_bipush_48 : (Int8.ofInt (48)).toInt32 = (48) := by decide
theorem kv_bipush_50 : (Int8.ofInt (50)).toInt32 = (50) := by decide
theorem kv_bipush_57 : (Int8.ofInt (57)).toInt32 = (57) := by decide
theorem kv_bipush_59 : (Int8.ofInt (59)).toInt32 = (59) := by decide
theorem kv_bipush_63 : (Int8.ofInt (63)).toInt32 = (63) := by decide
theorem kv_bipush_64 : (Int8.ofInt (64)).toInt32 = (64) := by decide
theorem kv_bipush_97 : (Int8.ofInt (97)).toInt32 = (97) := by decide
theorem kv_bipush_99 : (Int8.ofInt (99)).toInt32 = (99) := by decide
theorem kv_bipush_122 : (Int8.ofInt (122)).toInt32 = (122) := by decide
theorem kv_iconst_m1 : Int32.ofInt (-1) = (-1) := by decide
theorem kv_iconst_0 : Int32.ofInt (0) = (0) := by decide
theorem kv_iconst_1 : Int32.ofInt (1) = (1) := by decide
theorem kv_iconst_2 : Int32.ofInt (2) = (2) := by decide
theorem kv_iconst_3 : Int32.ofInt (3) = (3) := by decide
theorem kv_iconst_4 : Int32.ofInt (4) = (4) := by decide
theorem kv_iconst_5 : Int32.ofInt (5) = (5) := by decide
theorem kv_iconst_8 : Int32.ofInt (8) = (8) := by decide
theorem kv_iconst_16 : Int32.ofInt (16) = (16) := by decide
theorem kv_lconst_0 : Int64.ofNat ((0 : Fin 2) : Nat) = (0) := by decide
theorem kv_sipush_255 : (Int16.ofInt (255)).toInt32 = (255) := by decide
theorem kv_sipush_256 : (Int16.ofInt (256)).toInt32 = (256) := by decide
theorem kv_sipush_10000 : (Int16.ofInt (10000)).toInt32 = (10000) := by decide
set_option maxRecDepth 50000 in
theorem mp_IcedTooSoon_259 : Cond.methodLink "IcedTooSoon" 259 Lib.Math.min.name ∈ it_tb ∧ Cond.static Lib.Math.min.name ∈ it_tb ∧ Cond.initialized "java/lang/Math" ∈ it_tb ∧ Cond.code Lib.Math.min.name Lib.Math.min.code 2 (some .int) ∈ it_tb := ⟨it_in_tb (List.mem_of_getElem? (i := 514) (by decide +kernel)) rfl, it_in_tb (List.mem_of_getElem? (i := 314) (by decide +kernel)) rfl, it_in_tb (List.mem_of_getElem? (i := 65) (by decide +kernel)) rfl, it_in_tb (List.mem_of_getElem? (i := 315) (by decide +kernel)) rfl⟩
set_option maxRecDepth 50000 in
theorem mp_IcedTooSoon_264 : Cond.methodLink "IcedTooSoon" 264 Lib.Math.max.name ∈ it_tb ∧ Cond.static Lib.Math.max.name ∈ it_tb ∧ Cond.initialized "java/lang/Math" ∈ it_tb ∧ Cond.code Lib.Math.max.name Lib.Math.max.code 2 (some .int) ∈ it_tb := ⟨it_in_tb (List.mem_of_getElem? (i := 515) (by decide +kernel)) rfl, it_in_tb (List.mem_of_getElem? (i := 311) (by decide +kernel)) rfl, it_in_tb (List.mem_of_getElem? (i := 65) (by decide +kernel)) rfl, it_in_tb (List.mem_of_getElem? (i := 312) (by decide +kernel)) rfl⟩
set_option maxRecDepth 50000 in
theorem mp_IcedTooSoon_275 : Cond.methodLink "IcedTooSoon" 275 Lib.Math.abs.name ∈ it_tb ∧ Cond.static Lib.Math.abs.name ∈ it_tb ∧ Cond.initialized "java/lang/Math" ∈ it_tb ∧ Cond.code Lib.Math.abs.name Lib.Math.abs.code 1 (some .int) ∈ it_tb := ⟨it_in_tb (List.mem_of_getElem? (i := 691) (by decide +kernel)) rfl, it_in_tb (List.mem_of_getElem? (i := 692) (by decide +kernel)) rfl, it_in_tb (List.mem_of_getElem? (i := 65) (by decide +kernel)) rfl, it_in_tb (List.mem_of_getElem? (i := 693) (by decide +kernel)) rfl⟩
set_option maxRecDepth 50000 in
theorem mp_IcedTooSoon_House_74 : Cond.methodLink "IcedTooSoon$House" 74 Lib.Math.min.name ∈ it_tb ∧ Cond.static Lib.Math.min.name ∈ it_tb ∧ Cond.initialized "java/lang/Math" ∈ it_tb ∧ Cond.code Lib.Math.min.name Lib.Math.min.code 2 (some .int) ∈ it_tb := ⟨it_in_tb (List.mem_of_getElem? (i := 539) (by decide +kernel)) rfl, it_in_tb (List.mem_of_getElem? (i := 314) (by decide +kernel)) rfl, it_in_tb (List.mem_of_getElem? (i := 65) (by decide +kernel)) rfl, it_in_tb (List.mem_of_getElem? (i := 315) (by decide +kernel)) rfl⟩
set_option maxRecDepth 50000 in
theorem mp_IcedTooSoon_House_83 : Cond.methodLink "IcedTooSoon$House" 83 Lib.Math.max.name ∈ it_tb ∧ Cond.static Lib.Math.max.name ∈ it_tb ∧ Cond.initialized "java/lang/Math" ∈ it_tb ∧ Cond.code Lib.Math.max.name Lib.Math.max.code 2 (some .int) ∈ it_tb := ⟨it_in_tb (List.mem_of_getElem? (i := 577) (by decide +kernel)) rfl, it_in_tb (List.mem_of_getElem? (i := 311) (by decide +kernel)) rfl, it_in_tb (List.mem_of_getElem? (i := 65) (by decide +kernel)) rfl, it_in_tb (List.mem_of_getElem? (i := 312) (by decide +kernel)) rfl⟩
