/-! ===== the start: the statics' facts ===== -/
def nwL : List Cond := flatC (Cond.and given_1 narrow_1)
def cmN : List String := ["ALLOY", "MOULD", "BUY", "CAST", "TEST", "MELT", "RENEW", "LIMIT", "STEP"]
def cmI : List Nat := [55, 61, 64, 67, 70, 73, 76, 79, 82]
def cmT (i : Nat) : Term := .static "BowFoundry$Command" (cmN.getD i "") "LBowFoundry$Command;"
def cmS (i : Nat) : Term := .string "BowFoundry$Command" (cmI.getD i 0)
def cmL (i : Nat) : Nat := (frm i).length
def cmX : List Nat := [243, 246, 250, 255, 261, 268, 276, 285, 295]
def cmY : List Nat := [1243, 1256, 1267, 1278, 1292, 1302, 1312, 1323, 1334]
theorem nw_mem {i : Nat} {w : Cond} (h : nwL[i]? = some w) : w ∈ nwL := List.mem_of_getElem? h
set_option maxRecDepth 100000 in
theorem nw_d1 : ∀ j, j < 100 → nwL[28 + j]? = some (.eq (.elem (.static "java/lang/Integer" "DigitOnes" "[B") (.int (Int32.ofNat j))) (.int (nI (48 + j % 10)))) := by decide +kernel
set_option maxRecDepth 100000 in
theorem nw_d2 : ∀ j, j < 100 → nwL[131 + j]? = some (.eq (.elem (.static "java/lang/Integer" "DigitTens" "[B") (.int (Int32.ofNat j))) (.int (nI (48 + j / 10)))) := by decide +kernel
set_option maxRecDepth 100000 in
theorem nw_c : ∀ j, j < 9 → nwL[12 + j]? = some (.eq (.elem (.static "BowFoundry" "COMMANDS" "[LBowFoundry$Command;") (.int (Int32.ofNat j))) (cmT j)) := by decide +kernel
set_option maxRecDepth 100000 in
theorem nw_s : ∀ j, j < 9 → nwL[234 + j]? = some (.eq (.elem (.static "BowFoundry$1" "$SwitchMap$BowFoundry$Command" "[I") (.int (Int32.ofNat j))) (.int (nI (j + 1)))) := by decide +kernel
set_option maxRecDepth 100000 in
theorem nw_e0 : ∀ i, i < 9 → nwL[cmX.getD i 0]? = some (.exactly (cmT i) "BowFoundry$Command") := by decide +kernel
set_option maxRecDepth 100000 in
theorem nw_e1 : ∀ i, i < 9 → nwL[cmX.getD i 0 + 1]? = some (.eq (.field (cmT i) "java/lang/Enum" "ordinal" "I") (.int (nI i))) := by decide +kernel
set_option maxRecDepth 100000 in
theorem nw_e2 : ∀ i, i < 9 → nwL[cmX.getD i 0 + 2]? = some (.eq (.field (cmT i) "BowFoundry$Command" "form" "Ljava/lang/String;") (cmS i)) := by decide +kernel
set_option maxRecDepth 100000 in
theorem nw_s0 : ∀ i, i < 9 → nwL[cmY.getD i 0]? = some (.exactly (cmS i) "java/lang/String") := by decide +kernel
set_option maxRecDepth 100000 in
theorem nw_s1 : ∀ i, i < 9 → nwL[cmY.getD i 0 + 1]? = some (.eq (.field (cmS i) "java/lang/String" "coder" "B") (.int 0)) := by decide +kernel
set_option maxRecDepth 100000 in
theorem nw_s2 : ∀ i, i < 9 → nwL[cmY.getD i 0 + 2]? = some (.arrayOf (.field (cmS i) "java/lang/String" "value" "[B") .byte) := by decide +kernel
set_option maxRecDepth 100000 in
theorem nw_s3 : ∀ i, i < 9 → nwL[cmY.getD i 0 + 3]? = some (.eq (.length (.field (cmS i) "java/lang/String" "value" "[B")) (.int (Int32.ofNat (cmL i)))) := by decide +kernel
set_option maxRecDepth 100000 in
theorem nw_s4 : ∀ i, i < 9 → ∀ j, j < cmL i → nwL[cmY.getD i 0 + 4 + j]? = some (.eq (.elem (.field (cmS i) "java/lang/String" "value" "[B") (.int (Int32.ofNat j))) (.int (nI ((frm i).getD j 0)))) := by decide +kernel
/-- two terms said equal, one of which is a reference -/
theorem eq_ref {args : Array Value} {s : State} {t u : Term} {a : Nat} (h : (Cond.eq t u).before args s = true) (hu : u.eval args s none [] s = some (.ref a)) : t.eval args s none [] s = some (.ref a) := by
  cases hv : t.eval args s none [] s with
  | none => simp [Cond.before, Cond.holds, Cond.value, hv] at h
  | some w =>
    simp only [Cond.before, Cond.holds, Cond.value, hv, hu] at h
    cases w <;> simp_all
set_option maxRecDepth 100000 in
theorem nw_cs : nwL[4]? = some (.eq (.static "java/lang/String" "COMPACT_STRINGS" "Z") (.int 1)) := by decide +kernel
set_option maxRecDepth 100000 in
theorem nw_a1 : nwL[26]? = some (.arrayOf (.static "java/lang/Integer" "DigitOnes" "[B") .byte) := by decide +kernel
set_option maxRecDepth 100000 in
theorem nw_l1 : nwL[27]? = some (.eq (.length (.static "java/lang/Integer" "DigitOnes" "[B")) (.int (Int32.ofNat 100))) := by decide +kernel
set_option maxRecDepth 100000 in
theorem nw_a2 : nwL[129]? = some (.arrayOf (.static "java/lang/Integer" "DigitTens" "[B") .byte) := by decide +kernel
set_option maxRecDepth 100000 in
theorem nw_l2 : nwL[130]? = some (.eq (.length (.static "java/lang/Integer" "DigitTens" "[B")) (.int (Int32.ofNat 100))) := by decide +kernel
set_option maxRecDepth 100000 in
theorem nw_a3 : nwL[9]? = some (.arrayOf (.static "BowFoundry" "COMMANDS" "[LBowFoundry$Command;") (.object "BowFoundry$Command")) := by decide +kernel
set_option maxRecDepth 100000 in
theorem nw_l3 : nwL[10]? = some (.eq (.length (.static "BowFoundry" "COMMANDS" "[LBowFoundry$Command;")) (.int (Int32.ofNat 9))) := by decide +kernel
set_option maxRecDepth 100000 in
theorem nw_a4 : nwL[232]? = some (.arrayOf (.static "BowFoundry$1" "$SwitchMap$BowFoundry$Command" "[I") .int) := by decide +kernel
set_option maxRecDepth 100000 in
theorem nw_l4 : nwL[233]? = some (.eq (.length (.static "BowFoundry$1" "$SwitchMap$BowFoundry$Command" "[I")) (.int (Int32.ofNat 9))) := by decide +kernel
set_option maxRecDepth 100000 in
theorem nw_r1 : nwL[5]? = some (.isRef (.static "java/lang/Throwable" "UNASSIGNED_STACK" "[Ljava/lang/StackTraceElement;")) := by decide +kernel
set_option maxRecDepth 100000 in
theorem nw_r2 : nwL[6]? = some (.isRef (.static "java/lang/Throwable" "SUPPRESSED_SENTINEL" "Ljava/util/List;")) := by decide +kernel
set_option maxRecDepth 100000 in
theorem nw_r3 : nwL[21]? = some (.isRef (.static "jdk/internal/util/Preconditions" "SIOOBE_FORMATTER" "Ljava/util/function/BiFunction;")) := by decide +kernel
def ncX : List (List Nat) := [[0, 339, 311, 353, 367, 0], [325, 0, 312, 354, 368, 0], [324, 338, 0, 352, 366, 0], [326, 340, 313, 0, 369, 0], [327, 341, 314, 355, 0, 0], [331, 345, 317, 359, 373, 0]]
set_option maxRecDepth 100000 in
theorem nw_nc : ∀ i, i < 6 → ∀ j, j < 5 → i ≠ j → nwL[(ncX.getD i []).getD j 0]? = some (.not (.castable (exL.getD i "") (exL.getD j ""))) := by decide +kernel
def mgX : List Nat := [404, 430, 464, 505, 544, 583, 612, 612, 583, 909, 957, 739, 785, 986, 819, 857, 885]
set_option maxRecDepth 100000 in
theorem nw_m : ∀ i, i < 17 → nwL[mgX.getD i 0]? = some (.exactly (.string "BowFoundry" (msgL.getD i (0, "")).1) "java/lang/String") := by decide +kernel
theorem tb_m : ∀ i, i < 17 → Cond.stringRef "BowFoundry" (msgL.getD i (0, "")).1 (msgL.getD i (0, "")).2 ∈ lw_tbl := by
  intro i hi
  match i, hi with
  | 0, _ => exact tm2 (j := 103) rfl
  | 1, _ => exact tm2 (j := 138) rfl
  | 2, _ => exact tm2 (j := 154) rfl
  | 3, _ => exact tm2 (j := 170) rfl
  | 4, _ => exact tm2 (j := 186) rfl
  | 5, _ => exact tm3 (j := 51) rfl
  | 6, _ => exact tm3 (j := 184) rfl
  | 7, _ => exact tm3 (j := 184) rfl
  | 8, _ => exact tm3 (j := 51) rfl
  | 9, _ => exact tm5 (j := 144) rfl
  | 10, _ => exact tm5 (j := 149) rfl
  | 11, _ => exact tm5 (j := 74) rfl
  | 12, _ => exact tm5 (j := 112) rfl
  | 13, _ => exact tm5 (j := 238) rfl
  | 14, _ => exact tm5 (j := 117) rfl
  | 15, _ => exact tm5 (j := 122) rfl
  | 16, _ => exact tm5 (j := 131) rfl
  | k + 17, h => exact absurd h (by omega)
def ltX : List Nat := [1020, 1054, 1072, 1085, 1090, 1102, 1114, 1127, 1139, 1143, 1154, 1160, 1174, 1182, 1187, 1197, 1210]
def ltC : List Nat := [1021, 1055, 1073, 1086, 1091, 1103, 1115, 1128, 1140, 1144, 1155, 1161, 1175, 1183, 1188, 1198, 1211]
def ltA : List Nat := [1022, 1056, 1074, 1087, 1092, 1104, 1116, 1129, 1141, 1145, 1156, 1162, 1176, 1184, 1189, 1199, 1212]
def ltN : List Nat := [1023, 1057, 1075, 1088, 1093, 1105, 1117, 1130, 1142, 1146, 1157, 1163, 1177, 1185, 1190, 1200, 1213]
def ltE : List Nat := [1024, 1058, 1076, 1089, 1094, 1106, 1118, 1131, 0, 1147, 1158, 1164, 1178, 1186, 1191, 1201, 1214]
def ltS (i : Nat) : Term := .string "BowFoundryLaw" (lsL.getD i (0, "")).1
def ltL9 (i : Nat) : Nat := (ltx i).length
set_option maxRecDepth 100000 in
theorem nw_t0 : ∀ i, i < 17 → nwL[ltX.getD i 0]? = some (.exactly (ltS i) "java/lang/String") := by decide +kernel
set_option maxRecDepth 100000 in
theorem nw_t1 : ∀ i, i < 17 → nwL[ltC.getD i 0]? = some (.eq (.field (ltS i) "java/lang/String" "coder" "B") (.int 0)) := by decide +kernel
set_option maxRecDepth 100000 in
theorem nw_t2 : ∀ i, i < 17 → nwL[ltA.getD i 0]? = some (.arrayOf (.field (ltS i) "java/lang/String" "value" "[B") .byte) := by decide +kernel
set_option maxRecDepth 100000 in
theorem nw_t3 : ∀ i, i < 17 → nwL[ltN.getD i 0]? = some (.eq (.length (.field (ltS i) "java/lang/String" "value" "[B")) (.int (Int32.ofNat (ltL9 i)))) := by decide +kernel
set_option maxRecDepth 100000 in
theorem nw_t4 : ∀ i, i < 17 → ∀ j, j < ltL9 i → nwL[ltE.getD i 0 + j]? = some (.eq (.elem (.field (ltS i) "java/lang/String" "value" "[B") (.int (Int32.ofNat j))) (.int (nI ((ltx i).getD j 0)))) := by decide +kernel
theorem tb_t : ∀ i, i < 17 → Cond.stringRef "BowFoundryLaw" (lsL.getD i (0, "")).1 (lsL.getD i (0, "")).2 ∈ lw_tbl := by
  intro i hi
  match i, hi with
  | 0, _ => exact tm6 (j := 5) rfl
  | 1, _ => exact tm6 (j := 6) rfl
  | 2, _ => exact tm6 (j := 7) rfl
  | 3, _ => exact tm6 (j := 8) rfl
  | 4, _ => exact tm6 (j := 9) rfl
  | 5, _ => exact tm6 (j := 10) rfl
  | 6, _ => exact tm6 (j := 11) rfl
  | 7, _ => exact tm6 (j := 12) rfl
  | 8, _ => exact tm6 (j := 13) rfl
  | 9, _ => exact tm6 (j := 14) rfl
  | 10, _ => exact tm6 (j := 15) rfl
  | 11, _ => exact tm6 (j := 16) rfl
  | 12, _ => exact tm6 (j := 17) rfl
  | 13, _ => exact tm6 (j := 18) rfl
  | 14, _ => exact tm6 (j := 19) rfl
  | 15, _ => exact tm6 (j := 20) rfl
  | 16, _ => exact tm6 (j := 21) rfl
  | k + 17, h => exact absurd h (by omega)
theorem nI_u {x : Int32} : nI x.toUInt32.toNat = x := by
  show (UInt32.ofNat x.toUInt32.toNat).toInt32 = x
  rw [UInt32.ofNat_toNat]
  rfl
theorem SF_start {args : Array Value} {s : State} {b9 L9 : Nat} {xs : Nat → Int32} (hts : ∀ w ∈ lw_tbl, w.before args s = true) (hn : ∀ w ∈ nwL, w.before args s = true) (hXs : va_X b9 L9 xs s s.heap) (hbl : b9 < s.heap.size) (hL9 : L9 ≤ 260) : ∃ sa : Nat → Nat, SF sa (fun q => s.heap.size ≤ q) s s.heap ∧ sa 90 = b9 := by
  have hA : ∀ a : Nat, a < s.heap.size → ¬ (s.heap.size ≤ a) := fun a h q => absurd h (by omega)
  obtain ⟨t1, v1, T1⟩ := va_Tof (N := 100) (f := fun j => .int (nI (48 + j % 10))) (A := fun q => s.heap.size ≤ q) (by decide) (hn _ (nw_mem nw_a1)) (va_eqt (hn _ (nw_mem nw_l1))) (fun j hj => va_eqt (hn _ (nw_mem (nw_d1 j hj)))) hA
  obtain ⟨t2, v2, T2⟩ := va_Tof (N := 100) (f := fun j => .int (nI (48 + j / 10))) (A := fun q => s.heap.size ≤ q) (by decide) (hn _ (nw_mem nw_a2)) (va_eqt (hn _ (nw_mem nw_l2))) (fun j hj => va_eqt (hn _ (nw_mem (nw_d2 j hj)))) hA
  have hcm : ∀ i : Nat, ∃ q : Nat × Nat × Nat, i < 9 → (cmT i).eval args s none [] s = some (.ref q.1) ∧ va_O "BowFoundry$Command" q.1 (fun q => s.heap.size ≤ q) s s.heap ∧ va_OF "java/lang/Enum" "ordinal" "I" (.int (nI i)) q.1 (fun q => s.heap.size ≤ q) s s.heap ∧ va_OF "BowFoundry$Command" "form" "Ljava/lang/String;" (.ref q.2.1) q.1 (fun q => s.heap.size ≤ q) s s.heap ∧ va_O "java/lang/String" q.2.1 (fun q => s.heap.size ≤ q) s s.heap ∧ va_OF "java/lang/String" "coder" "B" (.int 0) q.2.1 (fun q => s.heap.size ≤ q) s s.heap ∧ va_OF "java/lang/String" "value" "[B" (.ref q.2.2) q.2.1 (fun q => s.heap.size ≤ q) s s.heap ∧ va_T .byte q.2.2 (frm i).length (fun j => .int (nI ((frm i).getD j 0))) (fun q => s.heap.size ≤ q) s s.heap := by
    intro i
    by_cases hi : i < 9
    · obtain ⟨a, -, -, -, q1, -⟩ := Cond.exactly_spec (args := args) (first := s) (o := none) (s := s) (idx := []) (hn _ (nw_mem (nw_e0 i hi)))
      obtain ⟨b, -, -, -, r1, -⟩ := Cond.exactly_spec (args := args) (first := s) (o := none) (s := s) (idx := []) (hn _ (nw_mem (nw_s0 i hi)))
      have hlt : (frm i).length < 2 ^ 31 := by
        have : ∀ i, i < 9 → (frm i).length < 2 ^ 31 := by decide +kernel
        exact this i hi
      obtain ⟨t, ht, hT⟩ := va_Tof (N := (frm i).length) (f := fun j => .int (nI ((frm i).getD j 0))) (A := fun q => s.heap.size ≤ q) hlt (hn _ (nw_mem (nw_s2 i hi))) (va_eqt (hn _ (nw_mem (nw_s3 i hi)))) (fun j hj => va_eqt (hn _ (nw_mem (nw_s4 i hi j hj)))) hA
      exact ⟨(a, b, t), fun _ => ⟨q1, va_Oof (hn _ (nw_mem (nw_e0 i hi))) q1 hA, vk_OFof q1 (va_eqt (hn _ (nw_mem (nw_e1 i hi)))) hA, vk_OFof q1 (eq_ref (hn _ (nw_mem (nw_e2 i hi))) r1) hA, va_Oof (hn _ (nw_mem (nw_s0 i hi))) r1 hA, vk_OFof r1 (va_eqt (hn _ (nw_mem (nw_s1 i hi)))) hA, vk_OFof r1 ht hA, hT⟩⟩
    · exact ⟨(0, 0, 0), fun h => absurd h hi⟩
  obtain ⟨cm, hcm⟩ := Classical.axiomOfChoice hcm
  have hmg : ∀ i : Nat, ∃ a : Nat, i < 17 → vk_R "BowFoundry" (msgL.getD i (0, "")).1 (msgL.getD i (0, "")).2 a s := by
    intro i
    by_cases hi : i < 17
    · obtain ⟨a, -, -, -, q1, -⟩ := Cond.exactly_spec (args := args) (first := s) (o := none) (s := s) (idx := []) (hn _ (nw_mem (nw_m i hi)))
      exact ⟨a, fun _ => vk_R.of (hts _ (tb_m i hi)) q1⟩
    · exact ⟨0, fun h => absurd h hi⟩
  obtain ⟨mg, hmg⟩ := Classical.axiomOfChoice hmg
  have hlt9 : ∀ i : Nat, ∃ q : Nat × Nat, i < 17 → va_O "java/lang/String" q.1 (fun q => s.heap.size ≤ q) s s.heap ∧ va_OF "java/lang/String" "coder" "B" (.int 0) q.1 (fun q => s.heap.size ≤ q) s s.heap ∧ va_OF "java/lang/String" "value" "[B" (.ref q.2) q.1 (fun q => s.heap.size ≤ q) s s.heap ∧ va_T .byte q.2 (ltx i).length (fun j => .int (nI ((ltx i).getD j 0))) (fun q => s.heap.size ≤ q) s s.heap ∧ vk_R "BowFoundryLaw" (lsL.getD i (0, "")).1 (lsL.getD i (0, "")).2 q.1 s := by
    intro i
    by_cases hi : i < 17
    · obtain ⟨b, -, -, -, r1, -⟩ := Cond.exactly_spec (args := args) (first := s) (o := none) (s := s) (idx := []) (hn _ (nw_mem (nw_t0 i hi)))
      have hlt : (ltx i).length < 2 ^ 31 := by
        have : ∀ i, i < 17 → (ltx i).length < 2 ^ 31 := by decide +kernel
        exact this i hi
      obtain ⟨t, ht, hT⟩ := va_Tof (N := (ltx i).length) (f := fun j => .int (nI ((ltx i).getD j 0))) (A := fun q => s.heap.size ≤ q) hlt (hn _ (nw_mem (nw_t2 i hi))) (va_eqt (hn _ (nw_mem (nw_t3 i hi)))) (fun j hj => va_eqt (hn _ (nw_mem (nw_t4 i hi j hj)))) hA
      exact ⟨(b, t), fun _ => ⟨va_Oof (hn _ (nw_mem (nw_t0 i hi))) r1 hA, vk_OFof r1 (va_eqt (hn _ (nw_mem (nw_t1 i hi)))) hA, vk_OFof r1 ht hA, hT, vk_R.of (hts _ (tb_t i hi)) r1⟩⟩
    · exact ⟨(0, 0), fun h => absurd h hi⟩
  obtain ⟨lt, hlt9⟩ := Classical.axiomOfChoice hlt9
  obtain ⟨t3, v3, T3⟩ := va_Tof (N := 9) (f := fun j => .ref (cm j).1) (A := fun q => s.heap.size ≤ q) (by decide) (hn _ (nw_mem nw_a3)) (va_eqt (hn _ (nw_mem nw_l3))) (fun j hj => eq_ref (hn _ (nw_mem (nw_c j hj))) (hcm j hj).1) hA
  obtain ⟨t4, v4, T4⟩ := va_Tof (N := 9) (f := fun j => .int (nI (j + 1))) (A := fun q => s.heap.size ≤ q) (by decide) (hn _ (nw_mem nw_a4)) (va_eqt (hn _ (nw_mem nw_l4))) (fun j hj => va_eqt (hn _ (nw_mem (nw_s j hj)))) hA
  refine ⟨fun k => if k < 10 then [t1, t2, t3, t4].getD k 0 else if k < 20 then (cm (k - 10)).1 else if k < 30 then (cm (k - 20)).2.1 else if k < 40 then (cm (k - 30)).2.2 else if k < 90 then mg (k - 40) else if k < 100 then [b9, L9].getD (k - 90) 0 else if k < 150 then (lt (k - 100)).1 else if k < 1000 then (lt (k - 150)).2 else (xs (k - 1000)).toUInt32.toNat, ?_⟩
  have e1 : ∀ i, i < 9 → (fun k => if k < 10 then [t1, t2, t3, t4].getD k 0 else if k < 20 then (cm (k - 10)).1 else if k < 30 then (cm (k - 20)).2.1 else if k < 40 then (cm (k - 30)).2.2 else if k < 90 then mg (k - 40) else if k < 100 then [b9, L9].getD (k - 90) 0 else if k < 150 then (lt (k - 100)).1 else if k < 1000 then (lt (k - 150)).2 else (xs (k - 1000)).toUInt32.toNat) (10 + i) = (cm i).1 := fun i hi => by
    show (if 10 + i < 10 then _ else if 10 + i < 20 then (cm (10 + i - 10)).1 else _) = _
    rw [if_neg (by omega), if_pos (by omega), show 10 + i - 10 = i by omega]
  have e2 : ∀ i, i < 9 → (fun k => if k < 10 then [t1, t2, t3, t4].getD k 0 else if k < 20 then (cm (k - 10)).1 else if k < 30 then (cm (k - 20)).2.1 else if k < 40 then (cm (k - 30)).2.2 else if k < 90 then mg (k - 40) else if k < 100 then [b9, L9].getD (k - 90) 0 else if k < 150 then (lt (k - 100)).1 else if k < 1000 then (lt (k - 150)).2 else (xs (k - 1000)).toUInt32.toNat) (20 + i) = (cm i).2.1 := fun i hi => by
    show (if 20 + i < 10 then _ else if 20 + i < 20 then _ else if 20 + i < 30 then (cm (20 + i - 20)).2.1 else _) = _
    rw [if_neg (by omega), if_neg (by omega), if_pos (by omega), show 20 + i - 20 = i by omega]
  have e3 : ∀ i, i < 9 → (fun k => if k < 10 then [t1, t2, t3, t4].getD k 0 else if k < 20 then (cm (k - 10)).1 else if k < 30 then (cm (k - 20)).2.1 else if k < 40 then (cm (k - 30)).2.2 else if k < 90 then mg (k - 40) else if k < 100 then [b9, L9].getD (k - 90) 0 else if k < 150 then (lt (k - 100)).1 else if k < 1000 then (lt (k - 150)).2 else (xs (k - 1000)).toUInt32.toNat) (30 + i) = (cm i).2.2 := fun i hi => by
    show (if 30 + i < 10 then _ else if 30 + i < 20 then _ else if 30 + i < 30 then _ else if 30 + i < 40 then (cm (30 + i - 30)).2.2 else _) = _
    rw [if_neg (by omega), if_neg (by omega), if_neg (by omega), if_pos (by omega), show 30 + i - 30 = i by omega]
  have e4 : ∀ i, i < 17 → (fun k => if k < 10 then [t1, t2, t3, t4].getD k 0 else if k < 20 then (cm (k - 10)).1 else if k < 30 then (cm (k - 20)).2.1 else if k < 40 then (cm (k - 30)).2.2 else if k < 90 then mg (k - 40) else if k < 100 then [b9, L9].getD (k - 90) 0 else if k < 150 then (lt (k - 100)).1 else if k < 1000 then (lt (k - 150)).2 else (xs (k - 1000)).toUInt32.toNat) (40 + i) = mg i := fun i hi => by
    show (if 40 + i < 10 then _ else if 40 + i < 20 then _ else if 40 + i < 30 then _ else if 40 + i < 40 then _ else if 40 + i < 90 then mg (40 + i - 40) else _) = _
    rw [if_neg (by omega), if_neg (by omega), if_neg (by omega), if_neg (by omega), if_pos (by omega), show 40 + i - 40 = i by omega]
  have e5 : ∀ i, i < 17 → (fun k => if k < 10 then [t1, t2, t3, t4].getD k 0 else if k < 20 then (cm (k - 10)).1 else if k < 30 then (cm (k - 20)).2.1 else if k < 40 then (cm (k - 30)).2.2 else if k < 90 then mg (k - 40) else if k < 100 then [b9, L9].getD (k - 90) 0 else if k < 150 then (lt (k - 100)).1 else if k < 1000 then (lt (k - 150)).2 else (xs (k - 1000)).toUInt32.toNat) (100 + i) = (lt i).1 := fun i hi => by
    show (if 100 + i < 10 then _ else if 100 + i < 20 then _ else if 100 + i < 30 then _ else if 100 + i < 40 then _ else if 100 + i < 90 then _ else if 100 + i < 100 then _ else if 100 + i < 150 then (lt (100 + i - 100)).1 else _) = _
    rw [if_neg (by omega), if_neg (by omega), if_neg (by omega), if_neg (by omega), if_neg (by omega), if_neg (by omega), if_pos (by omega), show 100 + i - 100 = i by omega]
  have e6 : ∀ i, i < 17 → (fun k => if k < 10 then [t1, t2, t3, t4].getD k 0 else if k < 20 then (cm (k - 10)).1 else if k < 30 then (cm (k - 20)).2.1 else if k < 40 then (cm (k - 30)).2.2 else if k < 90 then mg (k - 40) else if k < 100 then [b9, L9].getD (k - 90) 0 else if k < 150 then (lt (k - 100)).1 else if k < 1000 then (lt (k - 150)).2 else (xs (k - 1000)).toUInt32.toNat) (150 + i) = (lt i).2 := fun i hi => by
    show (if 150 + i < 10 then _ else if 150 + i < 20 then _ else if 150 + i < 30 then _ else if 150 + i < 40 then _ else if 150 + i < 90 then _ else if 150 + i < 100 then _ else if 150 + i < 150 then _ else if 150 + i < 1000 then (lt (150 + i - 150)).2 else _) = _
    rw [if_neg (by omega), if_neg (by omega), if_neg (by omega), if_neg (by omega), if_neg (by omega), if_neg (by omega), if_neg (by omega), if_pos (by omega), show 150 + i - 150 = i by omega]
  have e7 : ∀ i, (fun k => if k < 10 then [t1, t2, t3, t4].getD k 0 else if k < 20 then (cm (k - 10)).1 else if k < 30 then (cm (k - 20)).2.1 else if k < 40 then (cm (k - 30)).2.2 else if k < 90 then mg (k - 40) else if k < 100 then [b9, L9].getD (k - 90) 0 else if k < 150 then (lt (k - 100)).1 else if k < 1000 then (lt (k - 150)).2 else (xs (k - 1000)).toUInt32.toNat) (1000 + i) = (xs i).toUInt32.toNat := fun i => by
    show (if 1000 + i < 10 then _ else if 1000 + i < 20 then _ else if 1000 + i < 30 then _ else if 1000 + i < 40 then _ else if 1000 + i < 90 then _ else if 1000 + i < 100 then _ else if 1000 + i < 150 then _ else if 1000 + i < 1000 then _ else (xs (1000 + i - 1000)).toUInt32.toNat) = _
    rw [if_neg (by omega), if_neg (by omega), if_neg (by omega), if_neg (by omega), if_neg (by omega), if_neg (by omega), if_neg (by omega), if_neg (by omega), show 1000 + i - 1000 = i by omega]
  generalize hsa : (fun k => if k < 10 then [t1, t2, t3, t4].getD k 0 else if k < 20 then (cm (k - 10)).1 else if k < 30 then (cm (k - 20)).2.1 else if k < 40 then (cm (k - 30)).2.2 else if k < 90 then mg (k - 40) else if k < 100 then [b9, L9].getD (k - 90) 0 else if k < 150 then (lt (k - 100)).1 else if k < 1000 then (lt (k - 150)).2 else (xs (k - 1000)).toUInt32.toNat) = sa at e1 e2 e3 e4 e5 e6 e7 ⊢
  have z0 : sa 0 = t1 := by rw [← hsa]; rfl
  have z1 : sa 1 = t2 := by rw [← hsa]; rfl
  have z2 : sa 2 = t3 := by rw [← hsa]; rfl
  have z3 : sa 3 = t4 := by rw [← hsa]; rfl
  have z90 : sa 90 = b9 := by rw [← hsa]; rfl
  have z91 : sa 91 = L9 := by rw [← hsa]; rfl
  clear hsa
  refine ⟨?_, z90⟩
  refine ⟨va_Zof (hts _ (tm1 (j := 160) rfl)) (hts _ (tm1 (j := 7) rfl)) (va_eqt (hn _ (nw_mem nw_cs))) hA, ?_, ?_, ?_, ?_, ?_, vx_Zqof (hts _ (tm2 (j := 84) rfl)) (hts _ (tm1 (j := 9) rfl)) (hn _ (nw_mem nw_r1)) hA, vx_Zqof (hts _ (tm2 (j := 86) rfl)) (hts _ (tm1 (j := 9) rfl)) (hn _ (nw_mem nw_r2)) hA, va_Zqof (hts _ (tm4 (j := 17) rfl)) (hts _ (tm1 (j := 21) rfl)) (hn _ (nw_mem nw_r3)) hA, ?_, fun i j hi hj hij => va_Nc.of (hn _ (nw_mem (nw_nc i hi j hj hij))), ?_, by rw [z91]; exact hL9, ?_⟩
  · rw [z0]; exact ⟨va_Zref (hts _ (tm4 (j := 198) rfl)) (hts _ (tm1 (j := 26) rfl)) v1 hA, T1⟩
  · rw [z1]; exact ⟨va_Zref (hts _ (tm4 (j := 200) rfl)) (hts _ (tm1 (j := 26) rfl)) v2 hA, T2⟩
  · rw [z2]
    refine ⟨va_Zref (hts _ (tm3 (j := 228) rfl)) (hts _ (tm1 (j := 1) rfl)) v3 hA, ?_⟩
    obtain ⟨cell, g1, g2, g3, g4, g5, g6, g7⟩ := T3
    exact ⟨cell, g1, g2, g3, g4, g5, fun j hj => by
      rw [g6 j hj]
      show some (Value.ref (cm j).1) = some (Value.ref (sa (10 + j)))
      rw [e1 j hj], g7⟩
  · rw [z3]; exact ⟨va_Zref (hts _ (tm5 (j := 84) rfl)) (hts _ (tm1 (j := 27) rfl)) v4 hA, T4⟩
  · intro i hi
    rw [e1 i hi, e2 i hi, e3 i hi]
    exact (hcm i hi).2
  · intro i hi
    rw [e4 i hi]
    exact hmg i hi
  · intro i hi
    rw [e5 i hi, e6 i hi]
    exact hlt9 i hi
  · rw [z90, z91]
    obtain ⟨scr, g1, g2, g3, g4, g5⟩ := hXs
    refine ⟨scr, g1, g2, g3, by omega, by rw [g4], fun j hj => ?_, fun (h : s.heap.size ≤ b9) => absurd h (by omega)⟩
    rw [g5 j hj]
    show some (Value.int (xs j)) = some (Value.int (nI (sa (1000 + j))))
    rw [e7 j, nI_u]
