/-! ===== the model: commands read ===== -/
def cdL : List Nat := [97, 109, 98, 99, 116, 101, 114, 108, 115]
def cdf (i : Nat) : Nat := cdL.getD i 0
/-- how many numbers a form has -/
def nnL : List Nat := [3, 1, 2, 3, 1, 1, 1, 1, 1]
def nnf (i : Nat) : Nat := nnL.getD i 0
theorem sgn_len {t : List Nat} {x : Bool × Nat × List Nat} {c : Nat} : (sgn t x c).2.2.length = x.2.2.length + if c = 35 ∨ c = 42 then 1 else 0 := by
  unfold sgn
  split
  · rename_i e
    rw [if_pos (Or.inl e), List.length_append]
    rfl
  · rename_i e
    split
    · rename_i e2
      rw [if_pos (Or.inr e2), List.length_append]
      rfl
    · rename_i e2
      rw [if_neg (fun q => q.elim e e2)]
      rfl
theorem tf_len {t : List Nat} : ∀ {f : List Nat} {x : Bool × Nat × List Nat}, (tf t f x).2.2.length = x.2.2.length + (f.filter (fun c => c == 35 || c == 42)).length
  | [], _ => rfl
  | c :: f, x => by
    rw [tf_cons, tf_len (f := f), sgn_len, List.filter_cons]
    by_cases h : c = 35 ∨ c = 42
    · rw [if_pos h, if_pos (by simpa using h), List.length_cons]
      omega
    · rw [if_neg h, if_neg (by simpa using h)]
      omega
theorem nn_ok : ∀ i, i < 9 → ((frm i).filter (fun c => c == 35 || c == 42)).length = nnf i := by decide
theorem prs_len {t : List Nat} {p : Nat} (h : fi t p < 9) : (prs t p).2.2.length = nnf (fi t p) := by
  rw [prs_i rfl h, tf_len, nn_ok _ h]
  exact Nat.zero_add _
/-- a command read: pa1 holds it from k on; below k it is pa -/
def CC (t : List Nat) (p k : Nat) (pa pa1 : Nat → Int32) (r r1 : Nat → Nat) : Prop := PS r r1 ((prs t p).1, (prs t p).2.1) ∧ (∀ j, j < k → pa1 j = pa j) ∧
  ((prs t p).1 = false → pa1 k = nI (cdf (fi t p)) ∧ ∀ j, j < (prs t p).2.2.length → pa1 (k + 1 + j) = nI ((prs t p).2.2.getD j 0))
theorem CC_of {t : List Nat} {p k i : Nat} {pa pa1 : Nat → Int32} {r r1 : Nat → Nat} {y : Bool × Nat} {ns : List Nat} (hi : fi t p = i) (h9 : i < 9) (hy : tf t (frm i) (false, p, []) = (y.1, y.2, ns)) (hP : PS r r1 y) (hlow : ∀ j, j < k → pa1 j = pa j) (hk : pa1 k = nI (cdf i)) (hns : ∀ j, j < ns.length → pa1 (k + 1 + j) = nI (ns.getD j 0)) : CC t p k pa pa1 r r1 := by
  unfold CC
  rw [prs_i hi h9, hy, hi]
  exact ⟨hP, hlow, fun _ => ⟨hk, hns⟩⟩
theorem CC_no {t : List Nat} {p k : Nat} {pa pa1 : Nat → Int32} {r r1 : Nat → Nat} (hi : fi t p = 9) (hP : PS r r1 (true, p)) (hlow : ∀ j, j < k → pa1 j = pa j) : CC t p k pa pa1 r r1 := by
  unfold CC
  rw [prs_9 hi]
  exact ⟨hP, hlow, fun q => absurd (show true = false from q) (by decide)⟩
theorem ns1 {pa : Nat → Int32} {k a : Nat} (h0 : pa (k + 1) = nI a) : ∀ j, j < [a].length → pa (k + 1 + j) = nI ([a].getD j 0)
  | 0, _ => h0
  | j + 1, h => absurd h (by simp)
theorem ns2 {pa : Nat → Int32} {k a b : Nat} (h0 : pa (k + 1) = nI a) (h1 : pa (k + 2) = nI b) : ∀ j, j < [a, b].length → pa (k + 1 + j) = nI ([a, b].getD j 0)
  | 0, _ => h0
  | 1, _ => h1
  | j + 2, h => absurd h (by simp)
theorem ns3 {pa : Nat → Int32} {k a b c : Nat} (h0 : pa (k + 1) = nI a) (h1 : pa (k + 2) = nI b) (h2 : pa (k + 3) = nI c) : ∀ j, j < [a, b, c].length → pa (k + 1 + j) = nI ([a, b, c].getD j 0)
  | 0, _ => h0
  | 1, _ => h1
  | 2, _ => h2
  | j + 3, h => absurd h (by simp)
theorem tab_def {t : List Nat} {p : Nat} (hch : ∀ c ∈ t, c < 127) (h : hr t p ≠ 97 ∧ hr t p ≠ 109 ∧ hr t p ≠ 98 ∧ hr t p ≠ 99 ∧ hr t p ≠ 116 ∧ hr t p ≠ 114 ∧ hr t p ≠ 108 ∧ hr t p ≠ 115) : (hrI t (false, p).2).toInt < 97 ∨ 116 < (hrI t (false, p).2).toInt ∨ (#[93, 109, 150, 274, 274, 274, 274, 274, 274, 274, 274, 216, 101, 274, 274, 274, 274, 184, 248, 158] : Array Int)[((hrI t (false, p).2).toInt - 97).toNat]? = some 274 := by
  show (hrI t p).toInt < 97 ∨ 116 < (hrI t p).toInt ∨ (#[93, 109, 150, 274, 274, 274, 274, 274, 274, 274, 274, 216, 101, 274, 274, 274, 274, 184, 248, 158] : Array Int)[((hrI t p).toInt - 97).toNat]? = some 274
  by_cases hl : p < t.length
  · have h1 := hr_ch hch hl
    have e : (hrI t p).toInt = (hr t p : Int) := (hrI_eq hch (by omega)).mpr rfl
    rw [e]
    by_cases q : 97 ≤ hr t p ∧ hr t p ≤ 116
    · refine Or.inr (Or.inr ?_)
      obtain ⟨j, hj⟩ : ∃ j, hr t p = 97 + j := ⟨hr t p - 97, by omega⟩
      rw [show (((hr t p : Nat) : Int) - 97).toNat = j by omega]
      have hall : ∀ j, j < 20 → (j = 0 ∨ j = 12 ∨ j = 1 ∨ j = 2 ∨ j = 19 ∨ j = 17 ∨ j = 11 ∨ j = 18) ∨ (#[93, 109, 150, 274, 274, 274, 274, 274, 274, 274, 274, 216, 101, 274, 274, 274, 274, 184, 248, 158] : Array Int)[j]? = some 274 := by decide
      rcases hall j (by omega) with z | z
      · omega
      · exact z
    · omega
  · left
    unfold hrI
    rw [if_neg hl]
    decide
set_option maxRecDepth 20000 in
set_option maxHeartbeats 1000000 in
theorem cM_parsesAlloy {l : Launch} {D : va_G} {cy : Nat → ClassId} {sa : Nat → Nat} {ma : Nat → Nat} {r : Nat → Nat} {e : Nat → Int32} {g bf hy sv bu le : Nat → Nat} {pa : Nat → Int32} {r0 : Nat → Nat} {t : List Nat} {x : Bool × Nat} (hB : r0 2 = t.length ∧ t.length ≤ 60 ∧ LT bu t) (hch : ∀ c ∈ t, c < 127) (hP : PS r0 r x) {k : Nat} (hk : k ≤ 236)  : MG l yX6_parsesAlloy cX6_parsesAlloy 2 none 3 0 0 (D, cy, sa) [.ref (ma 0), .int (nI k)] (wM cy ma r e g bf hy sv bu le pa) (fun w u => w = none ∧ ∃ (r9 : Nat → Nat) (a b c : Nat), u = wM cy ma r9 e g bf hy sv bu le (up1 (up1 (up1 pa (k + 1) (nI a)) (k + 2) (nI b)) (k + 3) (nI c)) ∧ ∃ y : Bool × Nat, PS r0 r9 y ∧ tf t [108, 108, 111, 121, 32, 35, 35, 35] (x.1, x.2, []) = (y.1, y.2, [a, b, c])) := by
  have hPw := PS_w hP
  have hP0 := hP
  obtain ⟨hp0, hp5, hp6, hpl⟩ := hP0
  obtain ⟨hb1, hb2, hb3⟩ := hB
  have hr2 : r 2 = t.length := (hp0 2 (by decide) (by decide)).trans hb1
  have hB : r0 2 = t.length ∧ t.length ≤ 60 ∧ LT bu t := ⟨hb1, hb2, hb3⟩
  refine MG_by (own := RX6) (L := [some (.ref (ma 0)), some (.int (nI k))]) (by decide +kernel) rfl rfl (Nat.le_of_ble_eq_true rfl) 0 rfl (fun X hX hE hnL hG hcy hnm => ?_)
  refine r_aload_n (pc' := 1) hX dX6_parsesAlloy_0 rfl rfl ?_
  refine r_bipush (pc' := 3) (v := nI 108) hX dX6_parsesAlloy_1 rfl rfl ?_
  refine r_bipush (pc' := 5) (v := nI 108) hX dX6_parsesAlloy_3 rfl rfl ?_
  refine r_bipush (pc' := 7) (v := nI 111) hX dX6_parsesAlloy_5 rfl rfl ?_
  refine V_call0 (k' := 0) (n' := 0) (pc' := 10) hX (r_runV (As := [.int (nI 108), .int (nI 108), .int (nI 111)]) hX dX6_parsesAlloy_7 k_X6_182 (fun l9 hl9 => cM_needsThree (r0 := r0) (t := t) (x := x) hB hch hP (by omega) (by omega) (by omega)) hG ⟨8, _, TX6, 16, List.mem_cons_self, rfl⟩ rfl rfl (Nat.le_of_ble_eq_true rfl) (by decide) (by decide) (by decide) (by decide)) rfl rfl rfl (fun w9 u9 hp9 => ?_)
  obtain ⟨rfl, rb8, rfl, hQ8⟩ := hp9
  change V X 0 0 (wM cy ma rb8 e g bf hy sv bu le pa) [some (.ref (ma 0)), some (.int (nI k))] [] 10
  refine r_aload_n (pc' := 11) hX dX6_parsesAlloy_10 rfl rfl ?_
  refine r_bipush (pc' := 13) (v := nI 121) hX dX6_parsesAlloy_11 rfl rfl ?_
  refine V_call0 (k' := 0) (n' := 0) (pc' := 16) hX (r_runV (As := [.int (nI 121)]) hX dX6_parsesAlloy_13 k_X6_176 (fun l9 hl9 => cM_needs (r0 := r0) (t := t) (x := (nd t 111 (nd t 108 (nd t 108 x)))) hB hch hQ8 (by omega)) hG ⟨8, _, TX6, 16, List.mem_cons_self, rfl⟩ rfl rfl (Nat.le_of_ble_eq_true rfl) (by decide) (by decide) (by decide) (by decide)) rfl rfl rfl (fun w9 u9 hp9 => ?_)
  obtain ⟨rfl, rb9, rfl, hQ9⟩ := hp9
  change V X 0 0 (wM cy ma rb9 e g bf hy sv bu le pa) [some (.ref (ma 0)), some (.int (nI k))] [] 16
  refine r_aload_n (pc' := 17) hX dX6_parsesAlloy_16 rfl rfl ?_
  refine r_get (pc' := 20) (v := .ref (ma 7)) hX dX6_parsesAlloy_17 f_X6_36 0 rfl rfl rfl ?_
  refine r_iload_n (pc' := 21) hX dX6_parsesAlloy_20 rfl rfl ?_
  refine r_iconst (pc' := 22) (v := nI 1) hX dX6_parsesAlloy_21 rfl rfl ?_
  refine r_iadd_N (pc' := 23) hX dX6_parsesAlloy_22  rfl ?_
  refine r_aload_n (pc' := 24) hX dX6_parsesAlloy_23 rfl rfl ?_
  refine r_iconst (pc' := 25) (v := nI 1) hX dX6_parsesAlloy_24 rfl rfl ?_
  refine V_call0 (k' := 0) (n' := 0) (pc' := 28) hX (r_runV (As := [.int (nI 1)]) hX dX6_parsesAlloy_25 k_X6_186 (fun l9 hl9 => cM_behindBlank1 (r0 := r0) (t := t) (x := (nd t 121 (nd t 111 (nd t 108 (nd t 108 x))))) hB hch hQ9) hG ⟨8, _, TX6, 16, List.mem_cons_self, rfl⟩ rfl rfl (Nat.le_of_ble_eq_true rfl) (by decide) (by decide) (by decide) (by decide)) rfl rfl rfl (fun w9 u9 hp9 => ?_)
  obtain ⟨rfl, rb10, rfl, hQ10⟩ := hp9
  change V X 0 0 (wM cy ma rb10 e g bf hy sv bu le pa) [some (.ref (ma 0)), some (.int (nI k))] [.int (nI ((dgt t 1 (nd t 32 (nd t 121 (nd t 111 (nd t 108 (nd t 108 x)))))).2)), .int (nI (k + 1)), .ref (ma 7)] 28
  refine r_iast_I (ws' := wM cy ma rb10 e g bf hy sv bu le (up1 pa (k + 1) (nI ((dgt t 1 (nd t 32 (nd t 121 (nd t 111 (nd t 108 (nd t 108 x)))))).2)))) (pc' := 29) hX dX6_parsesAlloy_28 (by rw [hcy]) 7 rfl (by omega) (by decide) rfl rfl ?_
  refine r_aload_n (pc' := 30) hX dX6_parsesAlloy_29 rfl rfl ?_
  refine r_get (pc' := 33) (v := .ref (ma 7)) hX dX6_parsesAlloy_30 f_X6_36 0 rfl rfl rfl ?_
  refine r_iload_n (pc' := 34) hX dX6_parsesAlloy_33 rfl rfl ?_
  refine r_iconst (pc' := 35) (v := nI 2) hX dX6_parsesAlloy_34 rfl rfl ?_
  refine r_iadd_N (pc' := 36) hX dX6_parsesAlloy_35  rfl ?_
  refine r_aload_n (pc' := 37) hX dX6_parsesAlloy_36 rfl rfl ?_
  refine r_iconst (pc' := 38) (v := nI 1) hX dX6_parsesAlloy_37 rfl rfl ?_
  refine V_call0 (k' := 0) (n' := 0) (pc' := 41) hX (r_runV (As := [.int (nI 1)]) hX dX6_parsesAlloy_38 k_X6_179 (fun l9 hl9 => cM_digits1 (r0 := r0) (t := t) (x := (dgt t 1 (nd t 32 (nd t 121 (nd t 111 (nd t 108 (nd t 108 x)))))).1) hB hch hQ10) hG ⟨8, _, TX6, 16, List.mem_cons_self, rfl⟩ rfl rfl (Nat.le_of_ble_eq_true rfl) (by decide) (by decide) (by decide) (by decide)) rfl rfl rfl (fun w9 u9 hp9 => ?_)
  obtain ⟨rfl, rb11, rfl, hQ11⟩ := hp9
  change V X 0 0 (wM cy ma rb11 e g bf hy sv bu le (up1 pa (k + 1) (nI ((dgt t 1 (nd t 32 (nd t 121 (nd t 111 (nd t 108 (nd t 108 x)))))).2)))) [some (.ref (ma 0)), some (.int (nI k))] [.int (nI ((dgt t 1 (dgt t 1 (nd t 32 (nd t 121 (nd t 111 (nd t 108 (nd t 108 x)))))).1).2)), .int (nI (k + 2)), .ref (ma 7)] 41
  refine r_iast_I (ws' := wM cy ma rb11 e g bf hy sv bu le (up1 (up1 pa (k + 1) (nI ((dgt t 1 (nd t 32 (nd t 121 (nd t 111 (nd t 108 (nd t 108 x)))))).2))) (k + 2) (nI ((dgt t 1 (dgt t 1 (nd t 32 (nd t 121 (nd t 111 (nd t 108 (nd t 108 x)))))).1).2)))) (pc' := 42) hX dX6_parsesAlloy_41 (by rw [hcy]) 7 rfl (by omega) (by decide) rfl rfl ?_
  refine r_aload_n (pc' := 43) hX dX6_parsesAlloy_42 rfl rfl ?_
  refine r_get (pc' := 46) (v := .ref (ma 7)) hX dX6_parsesAlloy_43 f_X6_36 0 rfl rfl rfl ?_
  refine r_iload_n (pc' := 47) hX dX6_parsesAlloy_46 rfl rfl ?_
  refine r_iconst (pc' := 48) (v := nI 3) hX dX6_parsesAlloy_47 rfl rfl ?_
  refine r_iadd_N (pc' := 49) hX dX6_parsesAlloy_48  rfl ?_
  refine r_aload_n (pc' := 50) hX dX6_parsesAlloy_49 rfl rfl ?_
  refine r_iconst (pc' := 51) (v := nI 1) hX dX6_parsesAlloy_50 rfl rfl ?_
  refine V_call0 (k' := 0) (n' := 0) (pc' := 54) hX (r_runV (As := [.int (nI 1)]) hX dX6_parsesAlloy_51 k_X6_179 (fun l9 hl9 => cM_digits1 (r0 := r0) (t := t) (x := (dgt t 1 (dgt t 1 (nd t 32 (nd t 121 (nd t 111 (nd t 108 (nd t 108 x)))))).1).1) hB hch hQ11) hG ⟨8, _, TX6, 16, List.mem_cons_self, rfl⟩ rfl rfl (Nat.le_of_ble_eq_true rfl) (by decide) (by decide) (by decide) (by decide)) rfl rfl rfl (fun w9 u9 hp9 => ?_)
  obtain ⟨rfl, rb12, rfl, hQ12⟩ := hp9
  change V X 0 0 (wM cy ma rb12 e g bf hy sv bu le (up1 (up1 pa (k + 1) (nI ((dgt t 1 (nd t 32 (nd t 121 (nd t 111 (nd t 108 (nd t 108 x)))))).2))) (k + 2) (nI ((dgt t 1 (dgt t 1 (nd t 32 (nd t 121 (nd t 111 (nd t 108 (nd t 108 x)))))).1).2)))) [some (.ref (ma 0)), some (.int (nI k))] [.int (nI ((dgt t 1 (dgt t 1 (dgt t 1 (nd t 32 (nd t 121 (nd t 111 (nd t 108 (nd t 108 x)))))).1).1).2)), .int (nI (k + 3)), .ref (ma 7)] 54
  refine r_iast_I (ws' := wM cy ma rb12 e g bf hy sv bu le (up1 (up1 (up1 pa (k + 1) (nI ((dgt t 1 (nd t 32 (nd t 121 (nd t 111 (nd t 108 (nd t 108 x)))))).2))) (k + 2) (nI ((dgt t 1 (dgt t 1 (nd t 32 (nd t 121 (nd t 111 (nd t 108 (nd t 108 x)))))).1).2))) (k + 3) (nI ((dgt t 1 (dgt t 1 (dgt t 1 (nd t 32 (nd t 121 (nd t 111 (nd t 108 (nd t 108 x)))))).1).1).2)))) (pc' := 55) hX dX6_parsesAlloy_54 (by rw [hcy]) 7 rfl (by omega) (by decide) rfl rfl ?_
  exact r_vreturn hX hE dX6_parsesAlloy_55 rfl ⟨rfl, _, _, _, _, rfl, _, hQ12, rfl⟩ (by decide) (by decide)

set_option maxRecDepth 20000 in
set_option maxHeartbeats 1000000 in
theorem cM_parsesCast {l : Launch} {D : va_G} {cy : Nat → ClassId} {sa : Nat → Nat} {ma : Nat → Nat} {r : Nat → Nat} {e : Nat → Int32} {g bf hy sv bu le : Nat → Nat} {pa : Nat → Int32} {r0 : Nat → Nat} {t : List Nat} {x : Bool × Nat} (hB : r0 2 = t.length ∧ t.length ≤ 60 ∧ LT bu t) (hch : ∀ c ∈ t, c < 127) (hP : PS r0 r x) {k : Nat} (hk : k ≤ 236)  : MG l yX6_parsesCast cX6_parsesCast 2 none 3 0 0 (D, cy, sa) [.ref (ma 0), .int (nI k)] (wM cy ma r e g bf hy sv bu le pa) (fun w u => w = none ∧ ∃ (r9 : Nat → Nat) (a b c : Nat), u = wM cy ma r9 e g bf hy sv bu le (up1 (up1 (up1 pa (k + 1) (nI a)) (k + 2) (nI b)) (k + 3) (nI c)) ∧ ∃ y : Bool × Nat, PS r0 r9 y ∧ tf t [97, 115, 116, 32, 35, 32, 35, 32, 35] (x.1, x.2, []) = (y.1, y.2, [a, b, c])) := by
  have hPw := PS_w hP
  have hP0 := hP
  obtain ⟨hp0, hp5, hp6, hpl⟩ := hP0
  obtain ⟨hb1, hb2, hb3⟩ := hB
  have hr2 : r 2 = t.length := (hp0 2 (by decide) (by decide)).trans hb1
  have hB : r0 2 = t.length ∧ t.length ≤ 60 ∧ LT bu t := ⟨hb1, hb2, hb3⟩
  refine MG_by (own := RX6) (L := [some (.ref (ma 0)), some (.int (nI k))]) (by decide +kernel) rfl rfl (Nat.le_of_ble_eq_true rfl) 0 rfl (fun X hX hE hnL hG hcy hnm => ?_)
  refine r_aload_n (pc' := 1) hX dX6_parsesCast_0 rfl rfl ?_
  refine r_bipush (pc' := 3) (v := nI 97) hX dX6_parsesCast_1 rfl rfl ?_
  refine r_bipush (pc' := 5) (v := nI 115) hX dX6_parsesCast_3 rfl rfl ?_
  refine r_bipush (pc' := 7) (v := nI 116) hX dX6_parsesCast_5 rfl rfl ?_
  refine V_call0 (k' := 0) (n' := 0) (pc' := 10) hX (r_runV (As := [.int (nI 97), .int (nI 115), .int (nI 116)]) hX dX6_parsesCast_7 k_X6_182 (fun l9 hl9 => cM_needsThree (r0 := r0) (t := t) (x := x) hB hch hP (by omega) (by omega) (by omega)) hG ⟨8, _, TX6, 16, List.mem_cons_self, rfl⟩ rfl rfl (Nat.le_of_ble_eq_true rfl) (by decide) (by decide) (by decide) (by decide)) rfl rfl rfl (fun w9 u9 hp9 => ?_)
  obtain ⟨rfl, rb13, rfl, hQ13⟩ := hp9
  change V X 0 0 (wM cy ma rb13 e g bf hy sv bu le pa) [some (.ref (ma 0)), some (.int (nI k))] [] 10
  refine r_aload_n (pc' := 11) hX dX6_parsesCast_10 rfl rfl ?_
  refine r_get (pc' := 14) (v := .ref (ma 7)) hX dX6_parsesCast_11 f_X6_36 0 rfl rfl rfl ?_
  refine r_iload_n (pc' := 15) hX dX6_parsesCast_14 rfl rfl ?_
  refine r_iconst (pc' := 16) (v := nI 1) hX dX6_parsesCast_15 rfl rfl ?_
  refine r_iadd_N (pc' := 17) hX dX6_parsesCast_16  rfl ?_
  refine r_aload_n (pc' := 18) hX dX6_parsesCast_17 rfl rfl ?_
  refine r_iconst (pc' := 19) (v := nI 1) hX dX6_parsesCast_18 rfl rfl ?_
  refine V_call0 (k' := 0) (n' := 0) (pc' := 22) hX (r_runV (As := [.int (nI 1)]) hX dX6_parsesCast_19 k_X6_186 (fun l9 hl9 => cM_behindBlank1 (r0 := r0) (t := t) (x := (nd t 116 (nd t 115 (nd t 97 x)))) hB hch hQ13) hG ⟨8, _, TX6, 16, List.mem_cons_self, rfl⟩ rfl rfl (Nat.le_of_ble_eq_true rfl) (by decide) (by decide) (by decide) (by decide)) rfl rfl rfl (fun w9 u9 hp9 => ?_)
  obtain ⟨rfl, rb14, rfl, hQ14⟩ := hp9
  change V X 0 0 (wM cy ma rb14 e g bf hy sv bu le pa) [some (.ref (ma 0)), some (.int (nI k))] [.int (nI ((dgt t 1 (nd t 32 (nd t 116 (nd t 115 (nd t 97 x))))).2)), .int (nI (k + 1)), .ref (ma 7)] 22
  refine r_iast_I (ws' := wM cy ma rb14 e g bf hy sv bu le (up1 pa (k + 1) (nI ((dgt t 1 (nd t 32 (nd t 116 (nd t 115 (nd t 97 x))))).2)))) (pc' := 23) hX dX6_parsesCast_22 (by rw [hcy]) 7 rfl (by omega) (by decide) rfl rfl ?_
  refine r_aload_n (pc' := 24) hX dX6_parsesCast_23 rfl rfl ?_
  refine r_get (pc' := 27) (v := .ref (ma 7)) hX dX6_parsesCast_24 f_X6_36 0 rfl rfl rfl ?_
  refine r_iload_n (pc' := 28) hX dX6_parsesCast_27 rfl rfl ?_
  refine r_iconst (pc' := 29) (v := nI 2) hX dX6_parsesCast_28 rfl rfl ?_
  refine r_iadd_N (pc' := 30) hX dX6_parsesCast_29  rfl ?_
  refine r_aload_n (pc' := 31) hX dX6_parsesCast_30 rfl rfl ?_
  refine r_iconst (pc' := 32) (v := nI 1) hX dX6_parsesCast_31 rfl rfl ?_
  refine V_call0 (k' := 0) (n' := 0) (pc' := 35) hX (r_runV (As := [.int (nI 1)]) hX dX6_parsesCast_32 k_X6_186 (fun l9 hl9 => cM_behindBlank1 (r0 := r0) (t := t) (x := (dgt t 1 (nd t 32 (nd t 116 (nd t 115 (nd t 97 x))))).1) hB hch hQ14) hG ⟨8, _, TX6, 16, List.mem_cons_self, rfl⟩ rfl rfl (Nat.le_of_ble_eq_true rfl) (by decide) (by decide) (by decide) (by decide)) rfl rfl rfl (fun w9 u9 hp9 => ?_)
  obtain ⟨rfl, rb15, rfl, hQ15⟩ := hp9
  change V X 0 0 (wM cy ma rb15 e g bf hy sv bu le (up1 pa (k + 1) (nI ((dgt t 1 (nd t 32 (nd t 116 (nd t 115 (nd t 97 x))))).2)))) [some (.ref (ma 0)), some (.int (nI k))] [.int (nI ((dgt t 1 (nd t 32 (dgt t 1 (nd t 32 (nd t 116 (nd t 115 (nd t 97 x))))).1)).2)), .int (nI (k + 2)), .ref (ma 7)] 35
  refine r_iast_I (ws' := wM cy ma rb15 e g bf hy sv bu le (up1 (up1 pa (k + 1) (nI ((dgt t 1 (nd t 32 (nd t 116 (nd t 115 (nd t 97 x))))).2))) (k + 2) (nI ((dgt t 1 (nd t 32 (dgt t 1 (nd t 32 (nd t 116 (nd t 115 (nd t 97 x))))).1)).2)))) (pc' := 36) hX dX6_parsesCast_35 (by rw [hcy]) 7 rfl (by omega) (by decide) rfl rfl ?_
  refine r_aload_n (pc' := 37) hX dX6_parsesCast_36 rfl rfl ?_
  refine r_get (pc' := 40) (v := .ref (ma 7)) hX dX6_parsesCast_37 f_X6_36 0 rfl rfl rfl ?_
  refine r_iload_n (pc' := 41) hX dX6_parsesCast_40 rfl rfl ?_
  refine r_iconst (pc' := 42) (v := nI 3) hX dX6_parsesCast_41 rfl rfl ?_
  refine r_iadd_N (pc' := 43) hX dX6_parsesCast_42  rfl ?_
  refine r_aload_n (pc' := 44) hX dX6_parsesCast_43 rfl rfl ?_
  refine r_iconst (pc' := 45) (v := nI 1) hX dX6_parsesCast_44 rfl rfl ?_
  refine V_call0 (k' := 0) (n' := 0) (pc' := 48) hX (r_runV (As := [.int (nI 1)]) hX dX6_parsesCast_45 k_X6_186 (fun l9 hl9 => cM_behindBlank1 (r0 := r0) (t := t) (x := (dgt t 1 (nd t 32 (dgt t 1 (nd t 32 (nd t 116 (nd t 115 (nd t 97 x))))).1)).1) hB hch hQ15) hG ⟨8, _, TX6, 16, List.mem_cons_self, rfl⟩ rfl rfl (Nat.le_of_ble_eq_true rfl) (by decide) (by decide) (by decide) (by decide)) rfl rfl rfl (fun w9 u9 hp9 => ?_)
  obtain ⟨rfl, rb16, rfl, hQ16⟩ := hp9
  change V X 0 0 (wM cy ma rb16 e g bf hy sv bu le (up1 (up1 pa (k + 1) (nI ((dgt t 1 (nd t 32 (nd t 116 (nd t 115 (nd t 97 x))))).2))) (k + 2) (nI ((dgt t 1 (nd t 32 (dgt t 1 (nd t 32 (nd t 116 (nd t 115 (nd t 97 x))))).1)).2)))) [some (.ref (ma 0)), some (.int (nI k))] [.int (nI ((dgt t 1 (nd t 32 (dgt t 1 (nd t 32 (dgt t 1 (nd t 32 (nd t 116 (nd t 115 (nd t 97 x))))).1)).1)).2)), .int (nI (k + 3)), .ref (ma 7)] 48
  refine r_iast_I (ws' := wM cy ma rb16 e g bf hy sv bu le (up1 (up1 (up1 pa (k + 1) (nI ((dgt t 1 (nd t 32 (nd t 116 (nd t 115 (nd t 97 x))))).2))) (k + 2) (nI ((dgt t 1 (nd t 32 (dgt t 1 (nd t 32 (nd t 116 (nd t 115 (nd t 97 x))))).1)).2))) (k + 3) (nI ((dgt t 1 (nd t 32 (dgt t 1 (nd t 32 (dgt t 1 (nd t 32 (nd t 116 (nd t 115 (nd t 97 x))))).1)).1)).2)))) (pc' := 49) hX dX6_parsesCast_48 (by rw [hcy]) 7 rfl (by omega) (by decide) rfl rfl ?_
  exact r_vreturn hX hE dX6_parsesCast_49 rfl ⟨rfl, _, _, _, _, rfl, _, hQ16, rfl⟩ (by decide) (by decide)

set_option maxRecDepth 20000 in
set_option maxHeartbeats 1000000 in
theorem cM_parsesM {l : Launch} {D : va_G} {cy : Nat → ClassId} {sa : Nat → Nat} {ma : Nat → Nat} {r : Nat → Nat} {e : Nat → Int32} {g bf hy sv bu le : Nat → Nat} {pa : Nat → Int32} {r0 : Nat → Nat} {t : List Nat} {x : Bool × Nat} (hB : r0 2 = t.length ∧ t.length ≤ 60 ∧ LT bu t) (hch : ∀ c ∈ t, c < 127) (hP : PS r0 r x) {k : Nat} (hk : k ≤ 236)  : MG l yX6_parsesM cX6_parsesM 2 none 3 0 0 (D, cy, sa) [.ref (ma 0), .int (nI k)] (wM cy ma r e g bf hy sv bu le pa) (fun w u => w = none ∧ ∃ (r9 : Nat → Nat) (pa9 : Nat → Int32) (a : Nat), u = wM cy ma r9 e g bf hy sv bu le pa9 ∧ ∃ y : Bool × Nat, PS r0 r9 y ∧ (∀ j, j < k → pa9 j = pa j) ∧ pa9 (k + 1) = nI a ∧ ((hr t x.2 = 101 ∧ pa9 k = nI 101 ∧ tf t [101, 108, 116, 32, 42] (x.1, x.2, []) = (y.1, y.2, [a])) ∨ (hr t x.2 ≠ 101 ∧ pa9 k = pa k ∧ tf t [111, 117, 108, 100, 32, 42] (x.1, x.2, []) = (y.1, y.2, [a])))) := by
  have hPw := PS_w hP
  have hP0 := hP
  obtain ⟨hp0, hp5, hp6, hpl⟩ := hP0
  obtain ⟨hb1, hb2, hb3⟩ := hB
  have hr2 : r 2 = t.length := (hp0 2 (by decide) (by decide)).trans hb1
  have hB : r0 2 = t.length ∧ t.length ≤ 60 ∧ LT bu t := ⟨hb1, hb2, hb3⟩
  refine MG_by (own := RX6) (L := [some (.ref (ma 0)), some (.int (nI k))]) (by decide +kernel) rfl rfl (Nat.le_of_ble_eq_true rfl) 0 rfl (fun X hX hE hnL hG hcy hnm => ?_)
  refine r_aload_n (pc' := 1) hX dX6_parsesM_0 rfl rfl ?_
  refine V_call0 (k' := 0) (n' := 0) (pc' := 4) hX (r_runV (As := []) hX dX6_parsesM_1 k_X6_172 (fun l9 hl9 => cM_here (r0 := r0) (t := t) (x := x) hB hch hP) hG ⟨8, _, TX6, 16, List.mem_cons_self, rfl⟩ rfl rfl (Nat.le_of_ble_eq_true rfl) (by decide) (by decide) (by decide) (by decide)) rfl rfl rfl (fun w9 u9 hp9 => ?_)
  obtain ⟨rfl, rfl⟩ := hp9
  change V X 0 0 (wM cy ma r e g bf hy sv bu le pa) [some (.ref (ma 0)), some (.int (nI k))] [.int (hrI t x.2)] 4
  refine r_bipush (pc' := 6) (v := nI 101) hX dX6_parsesM_4 rfl rfl ?_
  refine r_icmp_ne_I (tgt := 30) (pc' := 9) hX dX6_parsesM_6 (by decide) rfl rfl (nI_I (by omega)) (fun c6 => ?_) (fun c6 => ?_)
  · have q101 : hr t x.2 ≠ 101 := fun q => c6 ((hrI_eq hch (by omega)).mpr q)
    refine r_aload_n (pc' := 31) hX dX6_parsesM_30 rfl rfl ?_
    refine r_bipush (pc' := 33) (v := nI 111) hX dX6_parsesM_31 rfl rfl ?_
    refine r_bipush (pc' := 35) (v := nI 117) hX dX6_parsesM_33 rfl rfl ?_
    refine r_bipush (pc' := 37) (v := nI 108) hX dX6_parsesM_35 rfl rfl ?_
    refine V_call0 (k' := 0) (n' := 0) (pc' := 40) hX (r_runV (As := [.int (nI 111), .int (nI 117), .int (nI 108)]) hX dX6_parsesM_37 k_X6_182 (fun l9 hl9 => cM_needsThree (r0 := r0) (t := t) (x := x) hB hch hP (by omega) (by omega) (by omega)) hG ⟨8, _, TX6, 16, List.mem_cons_self, rfl⟩ rfl rfl (Nat.le_of_ble_eq_true rfl) (by decide) (by decide) (by decide) (by decide)) rfl rfl rfl (fun w9 u9 hp9 => ?_)
    obtain ⟨rfl, rb17, rfl, hQ17⟩ := hp9
    change V X 0 0 (wM cy ma rb17 e g bf hy sv bu le pa) [some (.ref (ma 0)), some (.int (nI k))] [] 40
    refine r_aload_n (pc' := 41) hX dX6_parsesM_40 rfl rfl ?_
    refine r_bipush (pc' := 43) (v := nI 100) hX dX6_parsesM_41 rfl rfl ?_
    refine V_call0 (k' := 0) (n' := 0) (pc' := 46) hX (r_runV (As := [.int (nI 100)]) hX dX6_parsesM_43 k_X6_176 (fun l9 hl9 => cM_needs (r0 := r0) (t := t) (x := (nd t 108 (nd t 117 (nd t 111 x)))) hB hch hQ17 (by omega)) hG ⟨8, _, TX6, 16, List.mem_cons_self, rfl⟩ rfl rfl (Nat.le_of_ble_eq_true rfl) (by decide) (by decide) (by decide) (by decide)) rfl rfl rfl (fun w9 u9 hp9 => ?_)
    obtain ⟨rfl, rb18, rfl, hQ18⟩ := hp9
    change V X 0 0 (wM cy ma rb18 e g bf hy sv bu le pa) [some (.ref (ma 0)), some (.int (nI k))] [] 46
    refine r_aload_n (pc' := 47) hX dX6_parsesM_46 rfl rfl ?_
    refine r_get (pc' := 50) (v := .ref (ma 7)) hX dX6_parsesM_47 f_X6_36 0 rfl rfl rfl ?_
    refine r_iload_n (pc' := 51) hX dX6_parsesM_50 rfl rfl ?_
    refine r_iconst (pc' := 52) (v := nI 1) hX dX6_parsesM_51 rfl rfl ?_
    refine r_iadd_N (pc' := 53) hX dX6_parsesM_52  rfl ?_
    refine r_aload_n (pc' := 54) hX dX6_parsesM_53 rfl rfl ?_
    refine r_iconst (pc' := 55) (v := nI 2) hX dX6_parsesM_54 rfl rfl ?_
    refine V_call0 (k' := 0) (n' := 0) (pc' := 58) hX (r_runV (As := [.int (nI 2)]) hX dX6_parsesM_55 k_X6_186 (fun l9 hl9 => cM_behindBlank2 (r0 := r0) (t := t) (x := (nd t 100 (nd t 108 (nd t 117 (nd t 111 x))))) hB hch hQ18) hG ⟨8, _, TX6, 16, List.mem_cons_self, rfl⟩ rfl rfl (Nat.le_of_ble_eq_true rfl) (by decide) (by decide) (by decide) (by decide)) rfl rfl rfl (fun w9 u9 hp9 => ?_)
    obtain ⟨rfl, rb19, rfl, hQ19⟩ := hp9
    change V X 0 0 (wM cy ma rb19 e g bf hy sv bu le pa) [some (.ref (ma 0)), some (.int (nI k))] [.int (nI ((dgt t 2 (nd t 32 (nd t 100 (nd t 108 (nd t 117 (nd t 111 x)))))).2)), .int (nI (k + 1)), .ref (ma 7)] 58
    refine r_iast_I (ws' := wM cy ma rb19 e g bf hy sv bu le (up1 pa (k + 1) (nI ((dgt t 2 (nd t 32 (nd t 100 (nd t 108 (nd t 117 (nd t 111 x)))))).2)))) (pc' := 59) hX dX6_parsesM_58 (by rw [hcy]) 7 rfl (by omega) (by decide) rfl rfl ?_
    exact r_vreturn hX hE dX6_parsesM_59 rfl ⟨rfl, rb19, (up1 pa (k + 1) (nI ((dgt t 2 (nd t 32 (nd t 100 (nd t 108 (nd t 117 (nd t 111 x)))))).2))), ((dgt t 2 (nd t 32 (nd t 100 (nd t 108 (nd t 117 (nd t 111 x)))))).2), rfl, (dgt t 2 (nd t 32 (nd t 100 (nd t 108 (nd t 117 (nd t 111 x)))))).1, hQ19, (fun j hj => by (try simp only [up1]); (repeat' split) <;> (first | rfl | omega)), by simp [up1], .inr ⟨q101, by simp [up1], rfl⟩⟩ (by decide) (by decide)
  · have q101 : hr t x.2 = 101 := (hrI_eq hch (by omega)).mp c6
    refine r_aload_n (pc' := 10) hX dX6_parsesM_9 rfl rfl ?_
    refine r_get (pc' := 13) (v := .ref (ma 7)) hX dX6_parsesM_10 f_X6_36 0 rfl rfl rfl ?_
    refine r_iload_n (pc' := 14) hX dX6_parsesM_13 rfl rfl ?_
    refine r_bipush (pc' := 16) (v := nI 101) hX dX6_parsesM_14 rfl rfl ?_
    refine r_iast_I (ws' := wM cy ma r e g bf hy sv bu le (up1 pa k (nI 101))) (pc' := 17) hX dX6_parsesM_16 (by rw [hcy]) 7 rfl (by omega) (by decide) rfl rfl ?_
    refine r_aload_n (pc' := 18) hX dX6_parsesM_17 rfl rfl ?_
    refine r_bipush (pc' := 20) (v := nI 101) hX dX6_parsesM_18 rfl rfl ?_
    refine r_bipush (pc' := 22) (v := nI 108) hX dX6_parsesM_20 rfl rfl ?_
    refine r_bipush (pc' := 24) (v := nI 116) hX dX6_parsesM_22 rfl rfl ?_
    refine V_call0 (k' := 0) (n' := 0) (pc' := 27) hX (r_runV (As := [.int (nI 101), .int (nI 108), .int (nI 116)]) hX dX6_parsesM_24 k_X6_182 (fun l9 hl9 => cM_needsThree (r0 := r0) (t := t) (x := x) hB hch hP (by omega) (by omega) (by omega)) hG ⟨8, _, TX6, 16, List.mem_cons_self, rfl⟩ rfl rfl (Nat.le_of_ble_eq_true rfl) (by decide) (by decide) (by decide) (by decide)) rfl rfl rfl (fun w9 u9 hp9 => ?_)
    obtain ⟨rfl, rb20, rfl, hQ20⟩ := hp9
    change V X 0 0 (wM cy ma rb20 e g bf hy sv bu le (up1 pa k (nI 101))) [some (.ref (ma 0)), some (.int (nI k))] [] 27
    refine r_goto (tgt := 46) hX dX6_parsesM_27 (by decide) ?_
    refine r_aload_n (pc' := 47) hX dX6_parsesM_46 rfl rfl ?_
    refine r_get (pc' := 50) (v := .ref (ma 7)) hX dX6_parsesM_47 f_X6_36 0 rfl rfl rfl ?_
    refine r_iload_n (pc' := 51) hX dX6_parsesM_50 rfl rfl ?_
    refine r_iconst (pc' := 52) (v := nI 1) hX dX6_parsesM_51 rfl rfl ?_
    refine r_iadd_N (pc' := 53) hX dX6_parsesM_52  rfl ?_
    refine r_aload_n (pc' := 54) hX dX6_parsesM_53 rfl rfl ?_
    refine r_iconst (pc' := 55) (v := nI 2) hX dX6_parsesM_54 rfl rfl ?_
    refine V_call0 (k' := 0) (n' := 0) (pc' := 58) hX (r_runV (As := [.int (nI 2)]) hX dX6_parsesM_55 k_X6_186 (fun l9 hl9 => cM_behindBlank2 (r0 := r0) (t := t) (x := (nd t 116 (nd t 108 (nd t 101 x)))) hB hch hQ20) hG ⟨8, _, TX6, 16, List.mem_cons_self, rfl⟩ rfl rfl (Nat.le_of_ble_eq_true rfl) (by decide) (by decide) (by decide) (by decide)) rfl rfl rfl (fun w9 u9 hp9 => ?_)
    obtain ⟨rfl, rb21, rfl, hQ21⟩ := hp9
    change V X 0 0 (wM cy ma rb21 e g bf hy sv bu le (up1 pa k (nI 101))) [some (.ref (ma 0)), some (.int (nI k))] [.int (nI ((dgt t 2 (nd t 32 (nd t 116 (nd t 108 (nd t 101 x))))).2)), .int (nI (k + 1)), .ref (ma 7)] 58
    refine r_iast_I (ws' := wM cy ma rb21 e g bf hy sv bu le (up1 (up1 pa k (nI 101)) (k + 1) (nI ((dgt t 2 (nd t 32 (nd t 116 (nd t 108 (nd t 101 x))))).2)))) (pc' := 59) hX dX6_parsesM_58 (by rw [hcy]) 7 rfl (by omega) (by decide) rfl rfl ?_
    exact r_vreturn hX hE dX6_parsesM_59 rfl ⟨rfl, rb21, (up1 (up1 pa k (nI 101)) (k + 1) (nI ((dgt t 2 (nd t 32 (nd t 116 (nd t 108 (nd t 101 x))))).2))), ((dgt t 2 (nd t 32 (nd t 116 (nd t 108 (nd t 101 x))))).2), rfl, (dgt t 2 (nd t 32 (nd t 116 (nd t 108 (nd t 101 x))))).1, hQ21, (fun j hj => by (try simp only [up1]); (repeat' split) <;> (first | rfl | omega)), by simp [up1], .inl ⟨q101, by simp [up1], rfl⟩⟩ (by decide) (by decide)

set_option maxRecDepth 20000 in
set_option maxHeartbeats 1000000 in
theorem cM_parsesCommand {l : Launch} {D : va_G} {cy : Nat → ClassId} {sa : Nat → Nat} {ma : Nat → Nat} {r : Nat → Nat} {e : Nat → Int32} {g bf hy sv bu le : Nat → Nat} {pa : Nat → Int32} {t : List Nat} {p k : Nat} (hB : r 2 = t.length ∧ t.length ≤ 60 ∧ LT bu t) (hch : ∀ c ∈ t, c < 127) (h5 : r 5 = p) (h6 : r 6 = 0) (hp : p ≤ 60) (hk : k ≤ 236) : MG l yX6_parsesCommand cX6_parsesCommand 3 none 4 0 0 (D, cy, sa) [.ref (ma 0), .int (nI k)] (wM cy ma r e g bf hy sv bu le pa) (fun w u => w = none ∧ ∃ (r9 : Nat → Nat) (pa9 : Nat → Int32), u = wM cy ma r9 e g bf hy sv bu le pa9 ∧ CC t p k pa pa9 r r9) := by
  have hP : PS r r (false, p) := ⟨fun j q1 q2 => rfl, h5, h6, by show p ≤ 61; omega⟩
  refine MG_by (own := RX6) (L := [some (.ref (ma 0)), some (.int (nI k)), none]) (by decide +kernel) rfl rfl (Nat.le_of_ble_eq_true rfl) 1 rfl (fun X hX hE hnL hG hcy hnm => ?_)
  refine r_aload_n (pc' := 1) hX dX6_parsesCommand_0 rfl rfl ?_
  refine V_call0 (k' := 0) (n' := 0) (pc' := 4) hX (r_runV (As := []) hX dX6_parsesCommand_1 k_X6_172 (fun l9 hl9 => cM_here (r0 := r) (t := t) (x := (false, p)) hB hch hP) hG ⟨8, _, TX6, 16, List.mem_cons_self, rfl⟩ rfl rfl (Nat.le_of_ble_eq_true rfl) (by decide) (by decide) (by decide) (by decide)) rfl rfl rfl (fun w9 u9 hp9 => ?_)
  obtain ⟨rfl, rfl⟩ := hp9
  change V X 0 0 (wM cy ma r e g bf hy sv bu le pa) [some (.ref (ma 0)), some (.int (nI k)), none] [.int (hrI t (false, p).2)] 4
  refine r_istore_n (L' := [some (.ref (ma 0)), some (.int (nI k)), some (.int (hrI t (false, p).2))]) (pc' := 5) hX dX6_parsesCommand_4 (nlt hnL (by decide)) rfl rfl rfl ?_
  refine r_aload_n (pc' := 6) hX dX6_parsesCommand_5 rfl rfl ?_
  refine r_dup (pc' := 7) hX dX6_parsesCommand_6 rfl rfl ?_
  refine r_get (pc' := 10) (v := .int (nI (r 5))) hX dX6_parsesCommand_7 f_X6_165 0 rfl rfl rfl ?_
  refine r_iconst (pc' := 11) (v := nI 1) hX dX6_parsesCommand_10 rfl rfl ?_
  refine r_iadd_N (pc' := 12) hX dX6_parsesCommand_11  rfl ?_
  refine r_put (ws' := wM cy ma (up1 r 5 ((r 5) + 1)) e g bf hy sv bu le pa) (pc' := 15) hX dX6_parsesCommand_12 f_X6_165 fw_X6_13 0 rfl rfl rfl (Nat.le_of_ble_eq_true rfl) rfl rfl ?_
  refine r_aload_n (pc' := 16) hX dX6_parsesCommand_15 rfl rfl ?_
  refine r_get (pc' := 19) (v := .ref (ma 7)) hX dX6_parsesCommand_16 f_X6_36 0 rfl rfl rfl ?_
  refine r_iload_n (pc' := 20) hX dX6_parsesCommand_19 rfl rfl ?_
  refine r_iload_n (pc' := 21) hX dX6_parsesCommand_20 rfl rfl ?_
  refine r_iast_I (ws' := wM cy ma (up1 r 5 ((r 5) + 1)) e g bf hy sv bu le (up1 pa k (hrI t (false, p).2))) (pc' := 22) hX dX6_parsesCommand_21 (by rw [hcy]) 7 rfl (by omega) (by decide) rfl rfl ?_
  refine r_iload_n (pc' := 23) hX dX6_parsesCommand_22 rfl rfl ?_
  have hP1 : PS r (up1 r 5 ((r 5) + 1)) (false, p + 1) := PS_to hP (fun j q1 q2 => up1_ne q1) (by show r 5 + 1 = p + 1; omega) h6 (by show p + 1 ≤ 61; omega)
  by_cases q97 : hr t p = 97
  · have eI97 : (hrI t (false, p).2) = nI 97 := by rw [show hrI t (false, p).2 = nI (hr t p) from hrI_n (p := p) hch (by omega), q97]
    rw [eI97]
    refine r_tabN (tgt := 116) hX dX6_parsesCommand_23 (by decide) (by decide) (by decide) rfl (by decide) ?_
    refine r_aload_n (pc' := 117) hX dX6_parsesCommand_116 rfl rfl ?_
    refine r_iload_n (pc' := 118) hX dX6_parsesCommand_117 rfl rfl ?_
    refine V_call0 (k' := 0) (n' := 0) (pc' := 121) hX (r_runV (As := [.int (nI k)]) hX dX6_parsesCommand_118 k_X6_189 (fun l9 hl9 => cM_parsesAlloy (r0 := r) (t := t) (x := (false, p + 1)) hB hch hP1 (by omega)) hG ⟨8, _, TX6, 16, List.mem_cons_self, rfl⟩ rfl rfl (Nat.le_of_ble_eq_true rfl) (by decide) (by decide) (by decide) (by decide)) rfl rfl rfl (fun w9 u9 hp9 => ?_)
    obtain ⟨rfl, rc1, a9, b9, c9, rfl, y9, hy9, hz9⟩ := hp9
    change V X 0 0 (wM cy ma rc1 e g bf hy sv bu le (up1 (up1 (up1 (up1 pa k (nI 97)) (k + 1) (nI a9)) (k + 2) (nI b9)) (k + 3) (nI c9))) [some (.ref (ma 0)), some (.int (nI k)), some (.int (nI 97))] [] 121
    refine r_goto (tgt := 312) hX dX6_parsesCommand_121 (by decide) ?_
    exact r_vreturn hX hE dX6_parsesCommand_312 rfl ⟨rfl, _, _, rfl, CC_of (fi_97 q97) (by decide) (by rw [show frm 0 = 97 :: [108, 108, 111, 121, 32, 35, 35, 35] from rfl, tf_cons, sgn_nd q97 (by decide) (by decide)]; exact hz9) hy9 (fun j hj => by (try simp only [up1]); (repeat' split) <;> (first | rfl | omega)) (by show _ = nI 97; simp [up1]) (ns3 (by simp [up1]) (by simp [up1]) (by simp [up1]))⟩ (by decide) (by decide)
  by_cases q109 : hr t p = 109
  · have eI109 : (hrI t (false, p).2) = nI 109 := by rw [show hrI t (false, p).2 = nI (hr t p) from hrI_n (p := p) hch (by omega), q109]
    rw [eI109]
    refine r_tabN (tgt := 124) hX dX6_parsesCommand_23 (by decide) (by decide) (by decide) rfl (by decide) ?_
    refine r_aload_n (pc' := 125) hX dX6_parsesCommand_124 rfl rfl ?_
    refine r_iload_n (pc' := 126) hX dX6_parsesCommand_125 rfl rfl ?_
    refine V_call0 (k' := 0) (n' := 0) (pc' := 129) hX (r_runV (As := [.int (nI k)]) hX dX6_parsesCommand_126 k_X6_192 (fun l9 hl9 => cM_parsesM (r0 := r) (t := t) (x := (false, p + 1)) hB hch hP1 (by omega)) hG ⟨8, _, TX6, 16, List.mem_cons_self, rfl⟩ rfl rfl (Nat.le_of_ble_eq_true rfl) (by decide) (by decide) (by decide) (by decide)) rfl rfl rfl (fun w9 u9 hp9 => ?_)
    obtain ⟨rfl, rm9, pm9, a9, rfl, y9, hy9, hl9, ha9, hz9⟩ := hp9
    change V X 0 0 (wM cy ma rm9 e g bf hy sv bu le pm9) [some (.ref (ma 0)), some (.int (nI k)), some (.int (nI 109))] [] 129
    refine r_goto (tgt := 312) hX dX6_parsesCommand_129 (by decide) ?_
    exact r_vreturn hX hE dX6_parsesCommand_312 rfl ⟨rfl, _, _, rfl, by
      have hlo : ∀ j, j < k → pm9 j = pa j := fun j hj => (hl9 j hj).trans (if_neg (show j ≠ k by omega))
      rcases hz9 with ⟨e1, e2, e3⟩ | ⟨e1, e2, e3⟩
      · exact CC_of (fi_me q109 e1) (by decide) (by rw [show frm 5 = 109 :: [101, 108, 116, 32, 42] from rfl, tf_cons, sgn_nd q109 (by decide) (by decide)]; exact e3) hy9 hlo e2 (ns1 ha9)
      · exact CC_of (fi_mo q109 e1) (by decide) (by rw [show frm 1 = 109 :: [111, 117, 108, 100, 32, 42] from rfl, tf_cons, sgn_nd q109 (by decide) (by decide)]; exact e3) hy9 hlo (e2.trans (if_pos rfl)) (ns1 ha9)⟩ (by decide) (by decide)
  by_cases q98 : hr t p = 98
  · have eI98 : (hrI t (false, p).2) = nI 98 := by rw [show hrI t (false, p).2 = nI (hr t p) from hrI_n (p := p) hch (by omega), q98]
    rw [eI98]
    refine r_tabN (tgt := 132) hX dX6_parsesCommand_23 (by decide) (by decide) (by decide) rfl (by decide) ?_
    refine r_aload_n (pc' := 133) hX dX6_parsesCommand_132 rfl rfl ?_
    refine r_bipush (pc' := 135) (v := nI 117) hX dX6_parsesCommand_133 rfl rfl ?_
    refine V_call0 (k' := 0) (n' := 0) (pc' := 138) hX (r_runV (As := [.int (nI 117)]) hX dX6_parsesCommand_135 k_X6_176 (fun l9 hl9 => cM_needs (r0 := r) (t := t) (x := (false, p + 1)) hB hch hP1 (by omega)) hG ⟨8, _, TX6, 16, List.mem_cons_self, rfl⟩ rfl rfl (Nat.le_of_ble_eq_true rfl) (by decide) (by decide) (by decide) (by decide)) rfl rfl rfl (fun w9 u9 hp9 => ?_)
    obtain ⟨rfl, rb22, rfl, hQ22⟩ := hp9
    change V X 0 0 (wM cy ma rb22 e g bf hy sv bu le (up1 pa k (nI 98))) [some (.ref (ma 0)), some (.int (nI k)), some (.int (nI 98))] [] 138
    refine r_aload_n (pc' := 139) hX dX6_parsesCommand_138 rfl rfl ?_
    refine r_bipush (pc' := 141) (v := nI 121) hX dX6_parsesCommand_139 rfl rfl ?_
    refine V_call0 (k' := 0) (n' := 0) (pc' := 144) hX (r_runV (As := [.int (nI 121)]) hX dX6_parsesCommand_141 k_X6_176 (fun l9 hl9 => cM_needs (r0 := r) (t := t) (x := (nd t 117 (false, p + 1))) hB hch hQ22 (by omega)) hG ⟨8, _, TX6, 16, List.mem_cons_self, rfl⟩ rfl rfl (Nat.le_of_ble_eq_true rfl) (by decide) (by decide) (by decide) (by decide)) rfl rfl rfl (fun w9 u9 hp9 => ?_)
    obtain ⟨rfl, rb23, rfl, hQ23⟩ := hp9
    change V X 0 0 (wM cy ma rb23 e g bf hy sv bu le (up1 pa k (nI 98))) [some (.ref (ma 0)), some (.int (nI k)), some (.int (nI 98))] [] 144
    refine r_aload_n (pc' := 145) hX dX6_parsesCommand_144 rfl rfl ?_
    refine r_get (pc' := 148) (v := .ref (ma 7)) hX dX6_parsesCommand_145 f_X6_36 0 rfl rfl rfl ?_
    refine r_iload_n (pc' := 149) hX dX6_parsesCommand_148 rfl rfl ?_
    refine r_iconst (pc' := 150) (v := nI 1) hX dX6_parsesCommand_149 rfl rfl ?_
    refine r_iadd_N (pc' := 151) hX dX6_parsesCommand_150  rfl ?_
    refine r_aload_n (pc' := 152) hX dX6_parsesCommand_151 rfl rfl ?_
    refine r_iconst (pc' := 153) (v := nI 1) hX dX6_parsesCommand_152 rfl rfl ?_
    refine V_call0 (k' := 0) (n' := 0) (pc' := 156) hX (r_runV (As := [.int (nI 1)]) hX dX6_parsesCommand_153 k_X6_186 (fun l9 hl9 => cM_behindBlank1 (r0 := r) (t := t) (x := (nd t 121 (nd t 117 (false, p + 1)))) hB hch hQ23) hG ⟨8, _, TX6, 16, List.mem_cons_self, rfl⟩ rfl rfl (Nat.le_of_ble_eq_true rfl) (by decide) (by decide) (by decide) (by decide)) rfl rfl rfl (fun w9 u9 hp9 => ?_)
    obtain ⟨rfl, rb24, rfl, hQ24⟩ := hp9
    change V X 0 0 (wM cy ma rb24 e g bf hy sv bu le (up1 pa k (nI 98))) [some (.ref (ma 0)), some (.int (nI k)), some (.int (nI 98))] [.int (nI ((dgt t 1 (nd t 32 (nd t 121 (nd t 117 (false, p + 1))))).2)), .int (nI (k + 1)), .ref (ma 7)] 156
    refine r_iast_I (ws' := wM cy ma rb24 e g bf hy sv bu le (up1 (up1 pa k (nI 98)) (k + 1) (nI ((dgt t 1 (nd t 32 (nd t 121 (nd t 117 (false, p + 1))))).2)))) (pc' := 157) hX dX6_parsesCommand_156 (by rw [hcy]) 7 rfl (by omega) (by decide) rfl rfl ?_
    refine r_aload_n (pc' := 158) hX dX6_parsesCommand_157 rfl rfl ?_
    refine r_get (pc' := 161) (v := .ref (ma 7)) hX dX6_parsesCommand_158 f_X6_36 0 rfl rfl rfl ?_
    refine r_iload_n (pc' := 162) hX dX6_parsesCommand_161 rfl rfl ?_
    refine r_iconst (pc' := 163) (v := nI 2) hX dX6_parsesCommand_162 rfl rfl ?_
    refine r_iadd_N (pc' := 164) hX dX6_parsesCommand_163  rfl ?_
    refine r_aload_n (pc' := 165) hX dX6_parsesCommand_164 rfl rfl ?_
    refine r_iconst (pc' := 166) (v := nI 2) hX dX6_parsesCommand_165 rfl rfl ?_
    refine V_call0 (k' := 0) (n' := 0) (pc' := 169) hX (r_runV (As := [.int (nI 2)]) hX dX6_parsesCommand_166 k_X6_186 (fun l9 hl9 => cM_behindBlank2 (r0 := r) (t := t) (x := (dgt t 1 (nd t 32 (nd t 121 (nd t 117 (false, p + 1))))).1) hB hch hQ24) hG ⟨8, _, TX6, 16, List.mem_cons_self, rfl⟩ rfl rfl (Nat.le_of_ble_eq_true rfl) (by decide) (by decide) (by decide) (by decide)) rfl rfl rfl (fun w9 u9 hp9 => ?_)
    obtain ⟨rfl, rb25, rfl, hQ25⟩ := hp9
    change V X 0 0 (wM cy ma rb25 e g bf hy sv bu le (up1 (up1 pa k (nI 98)) (k + 1) (nI ((dgt t 1 (nd t 32 (nd t 121 (nd t 117 (false, p + 1))))).2)))) [some (.ref (ma 0)), some (.int (nI k)), some (.int (nI 98))] [.int (nI ((dgt t 2 (nd t 32 (dgt t 1 (nd t 32 (nd t 121 (nd t 117 (false, p + 1))))).1)).2)), .int (nI (k + 2)), .ref (ma 7)] 169
    refine r_iast_I (ws' := wM cy ma rb25 e g bf hy sv bu le (up1 (up1 (up1 pa k (nI 98)) (k + 1) (nI ((dgt t 1 (nd t 32 (nd t 121 (nd t 117 (false, p + 1))))).2))) (k + 2) (nI ((dgt t 2 (nd t 32 (dgt t 1 (nd t 32 (nd t 121 (nd t 117 (false, p + 1))))).1)).2)))) (pc' := 170) hX dX6_parsesCommand_169 (by rw [hcy]) 7 rfl (by omega) (by decide) rfl rfl ?_
    refine r_goto (tgt := 312) hX dX6_parsesCommand_170 (by decide) ?_
    exact r_vreturn hX hE dX6_parsesCommand_312 rfl ⟨rfl, _, _, rfl, CC_of (y := (dgt t 2 (nd t 32 (dgt t 1 (nd t 32 (nd t 121 (nd t 117 (false, p + 1))))).1)).1) (ns := [((dgt t 1 (nd t 32 (nd t 121 (nd t 117 (false, p + 1))))).2), ((dgt t 2 (nd t 32 (dgt t 1 (nd t 32 (nd t 121 (nd t 117 (false, p + 1))))).1)).2)]) (fi_98 q98) (by decide) (by rw [show frm 2 = 98 :: [117, 121, 32, 35, 32, 42] from rfl, tf_cons, sgn_nd q98 (by decide) (by decide)]; exact rfl) hQ25 (fun j hj => by (try simp only [up1]); (repeat' split) <;> (first | rfl | omega)) (by show _ = nI 98; simp [up1]) (ns2 (by simp [up1]) (by simp [up1]))⟩ (by decide) (by decide)
  by_cases q99 : hr t p = 99
  · have eI99 : (hrI t (false, p).2) = nI 99 := by rw [show hrI t (false, p).2 = nI (hr t p) from hrI_n (p := p) hch (by omega), q99]
    rw [eI99]
    refine r_tabN (tgt := 173) hX dX6_parsesCommand_23 (by decide) (by decide) (by decide) rfl (by decide) ?_
    refine r_aload_n (pc' := 174) hX dX6_parsesCommand_173 rfl rfl ?_
    refine r_iload_n (pc' := 175) hX dX6_parsesCommand_174 rfl rfl ?_
    refine V_call0 (k' := 0) (n' := 0) (pc' := 178) hX (r_runV (As := [.int (nI k)]) hX dX6_parsesCommand_175 k_X6_195 (fun l9 hl9 => cM_parsesCast (r0 := r) (t := t) (x := (false, p + 1)) hB hch hP1 (by omega)) hG ⟨8, _, TX6, 16, List.mem_cons_self, rfl⟩ rfl rfl (Nat.le_of_ble_eq_true rfl) (by decide) (by decide) (by decide) (by decide)) rfl rfl rfl (fun w9 u9 hp9 => ?_)
    obtain ⟨rfl, rc2, a9, b9, c9, rfl, y9, hy9, hz9⟩ := hp9
    change V X 0 0 (wM cy ma rc2 e g bf hy sv bu le (up1 (up1 (up1 (up1 pa k (nI 99)) (k + 1) (nI a9)) (k + 2) (nI b9)) (k + 3) (nI c9))) [some (.ref (ma 0)), some (.int (nI k)), some (.int (nI 99))] [] 178
    refine r_goto (tgt := 312) hX dX6_parsesCommand_178 (by decide) ?_
    exact r_vreturn hX hE dX6_parsesCommand_312 rfl ⟨rfl, _, _, rfl, CC_of (fi_99 q99) (by decide) (by rw [show frm 3 = 99 :: [97, 115, 116, 32, 35, 32, 35, 32, 35] from rfl, tf_cons, sgn_nd q99 (by decide) (by decide)]; exact hz9) hy9 (fun j hj => by (try simp only [up1]); (repeat' split) <;> (first | rfl | omega)) (by show _ = nI 99; simp [up1]) (ns3 (by simp [up1]) (by simp [up1]) (by simp [up1]))⟩ (by decide) (by decide)
  by_cases q116 : hr t p = 116
  · have eI116 : (hrI t (false, p).2) = nI 116 := by rw [show hrI t (false, p).2 = nI (hr t p) from hrI_n (p := p) hch (by omega), q116]
    rw [eI116]
    refine r_tabN (tgt := 181) hX dX6_parsesCommand_23 (by decide) (by decide) (by decide) rfl (by decide) ?_
    refine r_aload_n (pc' := 182) hX dX6_parsesCommand_181 rfl rfl ?_
    refine r_bipush (pc' := 184) (v := nI 101) hX dX6_parsesCommand_182 rfl rfl ?_
    refine r_bipush (pc' := 186) (v := nI 115) hX dX6_parsesCommand_184 rfl rfl ?_
    refine r_bipush (pc' := 188) (v := nI 116) hX dX6_parsesCommand_186 rfl rfl ?_
    refine V_call0 (k' := 0) (n' := 0) (pc' := 191) hX (r_runV (As := [.int (nI 101), .int (nI 115), .int (nI 116)]) hX dX6_parsesCommand_188 k_X6_182 (fun l9 hl9 => cM_needsThree (r0 := r) (t := t) (x := (false, p + 1)) hB hch hP1 (by omega) (by omega) (by omega)) hG ⟨8, _, TX6, 16, List.mem_cons_self, rfl⟩ rfl rfl (Nat.le_of_ble_eq_true rfl) (by decide) (by decide) (by decide) (by decide)) rfl rfl rfl (fun w9 u9 hp9 => ?_)
    obtain ⟨rfl, rb26, rfl, hQ26⟩ := hp9
    change V X 0 0 (wM cy ma rb26 e g bf hy sv bu le (up1 pa k (nI 116))) [some (.ref (ma 0)), some (.int (nI k)), some (.int (nI 116))] [] 191
    refine r_aload_n (pc' := 192) hX dX6_parsesCommand_191 rfl rfl ?_
    refine r_get (pc' := 195) (v := .ref (ma 7)) hX dX6_parsesCommand_192 f_X6_36 0 rfl rfl rfl ?_
    refine r_iload_n (pc' := 196) hX dX6_parsesCommand_195 rfl rfl ?_
    refine r_iconst (pc' := 197) (v := nI 1) hX dX6_parsesCommand_196 rfl rfl ?_
    refine r_iadd_N (pc' := 198) hX dX6_parsesCommand_197  rfl ?_
    refine r_aload_n (pc' := 199) hX dX6_parsesCommand_198 rfl rfl ?_
    refine r_iconst (pc' := 200) (v := nI 2) hX dX6_parsesCommand_199 rfl rfl ?_
    refine V_call0 (k' := 0) (n' := 0) (pc' := 203) hX (r_runV (As := [.int (nI 2)]) hX dX6_parsesCommand_200 k_X6_186 (fun l9 hl9 => cM_behindBlank2 (r0 := r) (t := t) (x := (nd t 116 (nd t 115 (nd t 101 (false, p + 1))))) hB hch hQ26) hG ⟨8, _, TX6, 16, List.mem_cons_self, rfl⟩ rfl rfl (Nat.le_of_ble_eq_true rfl) (by decide) (by decide) (by decide) (by decide)) rfl rfl rfl (fun w9 u9 hp9 => ?_)
    obtain ⟨rfl, rb27, rfl, hQ27⟩ := hp9
    change V X 0 0 (wM cy ma rb27 e g bf hy sv bu le (up1 pa k (nI 116))) [some (.ref (ma 0)), some (.int (nI k)), some (.int (nI 116))] [.int (nI ((dgt t 2 (nd t 32 (nd t 116 (nd t 115 (nd t 101 (false, p + 1)))))).2)), .int (nI (k + 1)), .ref (ma 7)] 203
    refine r_iast_I (ws' := wM cy ma rb27 e g bf hy sv bu le (up1 (up1 pa k (nI 116)) (k + 1) (nI ((dgt t 2 (nd t 32 (nd t 116 (nd t 115 (nd t 101 (false, p + 1)))))).2)))) (pc' := 204) hX dX6_parsesCommand_203 (by rw [hcy]) 7 rfl (by omega) (by decide) rfl rfl ?_
    refine r_goto (tgt := 312) hX dX6_parsesCommand_204 (by decide) ?_
    exact r_vreturn hX hE dX6_parsesCommand_312 rfl ⟨rfl, _, _, rfl, CC_of (y := (dgt t 2 (nd t 32 (nd t 116 (nd t 115 (nd t 101 (false, p + 1)))))).1) (ns := [((dgt t 2 (nd t 32 (nd t 116 (nd t 115 (nd t 101 (false, p + 1)))))).2)]) (fi_116 q116) (by decide) (by rw [show frm 4 = 116 :: [101, 115, 116, 32, 42] from rfl, tf_cons, sgn_nd q116 (by decide) (by decide)]; exact rfl) hQ27 (fun j hj => by (try simp only [up1]); (repeat' split) <;> (first | rfl | omega)) (by show _ = nI 116; simp [up1]) (ns1 (by simp [up1]))⟩ (by decide) (by decide)
  by_cases q114 : hr t p = 114
  · have eI114 : (hrI t (false, p).2) = nI 114 := by rw [show hrI t (false, p).2 = nI (hr t p) from hrI_n (p := p) hch (by omega), q114]
    rw [eI114]
    refine r_tabN (tgt := 207) hX dX6_parsesCommand_23 (by decide) (by decide) (by decide) rfl (by decide) ?_
    refine r_aload_n (pc' := 208) hX dX6_parsesCommand_207 rfl rfl ?_
    refine r_bipush (pc' := 210) (v := nI 101) hX dX6_parsesCommand_208 rfl rfl ?_
    refine r_bipush (pc' := 212) (v := nI 110) hX dX6_parsesCommand_210 rfl rfl ?_
    refine r_bipush (pc' := 214) (v := nI 101) hX dX6_parsesCommand_212 rfl rfl ?_
    refine V_call0 (k' := 0) (n' := 0) (pc' := 217) hX (r_runV (As := [.int (nI 101), .int (nI 110), .int (nI 101)]) hX dX6_parsesCommand_214 k_X6_182 (fun l9 hl9 => cM_needsThree (r0 := r) (t := t) (x := (false, p + 1)) hB hch hP1 (by omega) (by omega) (by omega)) hG ⟨8, _, TX6, 16, List.mem_cons_self, rfl⟩ rfl rfl (Nat.le_of_ble_eq_true rfl) (by decide) (by decide) (by decide) (by decide)) rfl rfl rfl (fun w9 u9 hp9 => ?_)
    obtain ⟨rfl, rb28, rfl, hQ28⟩ := hp9
    change V X 0 0 (wM cy ma rb28 e g bf hy sv bu le (up1 pa k (nI 114))) [some (.ref (ma 0)), some (.int (nI k)), some (.int (nI 114))] [] 217
    refine r_aload_n (pc' := 218) hX dX6_parsesCommand_217 rfl rfl ?_
    refine r_bipush (pc' := 220) (v := nI 119) hX dX6_parsesCommand_218 rfl rfl ?_
    refine V_call0 (k' := 0) (n' := 0) (pc' := 223) hX (r_runV (As := [.int (nI 119)]) hX dX6_parsesCommand_220 k_X6_176 (fun l9 hl9 => cM_needs (r0 := r) (t := t) (x := (nd t 101 (nd t 110 (nd t 101 (false, p + 1))))) hB hch hQ28 (by omega)) hG ⟨8, _, TX6, 16, List.mem_cons_self, rfl⟩ rfl rfl (Nat.le_of_ble_eq_true rfl) (by decide) (by decide) (by decide) (by decide)) rfl rfl rfl (fun w9 u9 hp9 => ?_)
    obtain ⟨rfl, rb29, rfl, hQ29⟩ := hp9
    change V X 0 0 (wM cy ma rb29 e g bf hy sv bu le (up1 pa k (nI 114))) [some (.ref (ma 0)), some (.int (nI k)), some (.int (nI 114))] [] 223
    refine r_aload_n (pc' := 224) hX dX6_parsesCommand_223 rfl rfl ?_
    refine r_get (pc' := 227) (v := .ref (ma 7)) hX dX6_parsesCommand_224 f_X6_36 0 rfl rfl rfl ?_
    refine r_iload_n (pc' := 228) hX dX6_parsesCommand_227 rfl rfl ?_
    refine r_iconst (pc' := 229) (v := nI 1) hX dX6_parsesCommand_228 rfl rfl ?_
    refine r_iadd_N (pc' := 230) hX dX6_parsesCommand_229  rfl ?_
    refine r_aload_n (pc' := 231) hX dX6_parsesCommand_230 rfl rfl ?_
    refine r_iconst (pc' := 232) (v := nI 1) hX dX6_parsesCommand_231 rfl rfl ?_
    refine V_call0 (k' := 0) (n' := 0) (pc' := 235) hX (r_runV (As := [.int (nI 1)]) hX dX6_parsesCommand_232 k_X6_186 (fun l9 hl9 => cM_behindBlank1 (r0 := r) (t := t) (x := (nd t 119 (nd t 101 (nd t 110 (nd t 101 (false, p + 1)))))) hB hch hQ29) hG ⟨8, _, TX6, 16, List.mem_cons_self, rfl⟩ rfl rfl (Nat.le_of_ble_eq_true rfl) (by decide) (by decide) (by decide) (by decide)) rfl rfl rfl (fun w9 u9 hp9 => ?_)
    obtain ⟨rfl, rb30, rfl, hQ30⟩ := hp9
    change V X 0 0 (wM cy ma rb30 e g bf hy sv bu le (up1 pa k (nI 114))) [some (.ref (ma 0)), some (.int (nI k)), some (.int (nI 114))] [.int (nI ((dgt t 1 (nd t 32 (nd t 119 (nd t 101 (nd t 110 (nd t 101 (false, p + 1))))))).2)), .int (nI (k + 1)), .ref (ma 7)] 235
    refine r_iast_I (ws' := wM cy ma rb30 e g bf hy sv bu le (up1 (up1 pa k (nI 114)) (k + 1) (nI ((dgt t 1 (nd t 32 (nd t 119 (nd t 101 (nd t 110 (nd t 101 (false, p + 1))))))).2)))) (pc' := 236) hX dX6_parsesCommand_235 (by rw [hcy]) 7 rfl (by omega) (by decide) rfl rfl ?_
    refine r_goto (tgt := 312) hX dX6_parsesCommand_236 (by decide) ?_
    exact r_vreturn hX hE dX6_parsesCommand_312 rfl ⟨rfl, _, _, rfl, CC_of (y := (dgt t 1 (nd t 32 (nd t 119 (nd t 101 (nd t 110 (nd t 101 (false, p + 1))))))).1) (ns := [((dgt t 1 (nd t 32 (nd t 119 (nd t 101 (nd t 110 (nd t 101 (false, p + 1))))))).2)]) (fi_114 q114) (by decide) (by rw [show frm 6 = 114 :: [101, 110, 101, 119, 32, 35] from rfl, tf_cons, sgn_nd q114 (by decide) (by decide)]; exact rfl) hQ30 (fun j hj => by (try simp only [up1]); (repeat' split) <;> (first | rfl | omega)) (by show _ = nI 114; simp [up1]) (ns1 (by simp [up1]))⟩ (by decide) (by decide)
  by_cases q108 : hr t p = 108
  · have eI108 : (hrI t (false, p).2) = nI 108 := by rw [show hrI t (false, p).2 = nI (hr t p) from hrI_n (p := p) hch (by omega), q108]
    rw [eI108]
    refine r_tabN (tgt := 239) hX dX6_parsesCommand_23 (by decide) (by decide) (by decide) rfl (by decide) ?_
    refine r_aload_n (pc' := 240) hX dX6_parsesCommand_239 rfl rfl ?_
    refine r_bipush (pc' := 242) (v := nI 105) hX dX6_parsesCommand_240 rfl rfl ?_
    refine r_bipush (pc' := 244) (v := nI 109) hX dX6_parsesCommand_242 rfl rfl ?_
    refine r_bipush (pc' := 246) (v := nI 105) hX dX6_parsesCommand_244 rfl rfl ?_
    refine V_call0 (k' := 0) (n' := 0) (pc' := 249) hX (r_runV (As := [.int (nI 105), .int (nI 109), .int (nI 105)]) hX dX6_parsesCommand_246 k_X6_182 (fun l9 hl9 => cM_needsThree (r0 := r) (t := t) (x := (false, p + 1)) hB hch hP1 (by omega) (by omega) (by omega)) hG ⟨8, _, TX6, 16, List.mem_cons_self, rfl⟩ rfl rfl (Nat.le_of_ble_eq_true rfl) (by decide) (by decide) (by decide) (by decide)) rfl rfl rfl (fun w9 u9 hp9 => ?_)
    obtain ⟨rfl, rb31, rfl, hQ31⟩ := hp9
    change V X 0 0 (wM cy ma rb31 e g bf hy sv bu le (up1 pa k (nI 108))) [some (.ref (ma 0)), some (.int (nI k)), some (.int (nI 108))] [] 249
    refine r_aload_n (pc' := 250) hX dX6_parsesCommand_249 rfl rfl ?_
    refine r_bipush (pc' := 252) (v := nI 116) hX dX6_parsesCommand_250 rfl rfl ?_
    refine V_call0 (k' := 0) (n' := 0) (pc' := 255) hX (r_runV (As := [.int (nI 116)]) hX dX6_parsesCommand_252 k_X6_176 (fun l9 hl9 => cM_needs (r0 := r) (t := t) (x := (nd t 105 (nd t 109 (nd t 105 (false, p + 1))))) hB hch hQ31 (by omega)) hG ⟨8, _, TX6, 16, List.mem_cons_self, rfl⟩ rfl rfl (Nat.le_of_ble_eq_true rfl) (by decide) (by decide) (by decide) (by decide)) rfl rfl rfl (fun w9 u9 hp9 => ?_)
    obtain ⟨rfl, rb32, rfl, hQ32⟩ := hp9
    change V X 0 0 (wM cy ma rb32 e g bf hy sv bu le (up1 pa k (nI 108))) [some (.ref (ma 0)), some (.int (nI k)), some (.int (nI 108))] [] 255
    refine r_aload_n (pc' := 256) hX dX6_parsesCommand_255 rfl rfl ?_
    refine r_get (pc' := 259) (v := .ref (ma 7)) hX dX6_parsesCommand_256 f_X6_36 0 rfl rfl rfl ?_
    refine r_iload_n (pc' := 260) hX dX6_parsesCommand_259 rfl rfl ?_
    refine r_iconst (pc' := 261) (v := nI 1) hX dX6_parsesCommand_260 rfl rfl ?_
    refine r_iadd_N (pc' := 262) hX dX6_parsesCommand_261  rfl ?_
    refine r_aload_n (pc' := 263) hX dX6_parsesCommand_262 rfl rfl ?_
    refine r_iconst (pc' := 264) (v := nI 2) hX dX6_parsesCommand_263 rfl rfl ?_
    refine V_call0 (k' := 0) (n' := 0) (pc' := 267) hX (r_runV (As := [.int (nI 2)]) hX dX6_parsesCommand_264 k_X6_186 (fun l9 hl9 => cM_behindBlank2 (r0 := r) (t := t) (x := (nd t 116 (nd t 105 (nd t 109 (nd t 105 (false, p + 1)))))) hB hch hQ32) hG ⟨8, _, TX6, 16, List.mem_cons_self, rfl⟩ rfl rfl (Nat.le_of_ble_eq_true rfl) (by decide) (by decide) (by decide) (by decide)) rfl rfl rfl (fun w9 u9 hp9 => ?_)
    obtain ⟨rfl, rb33, rfl, hQ33⟩ := hp9
    change V X 0 0 (wM cy ma rb33 e g bf hy sv bu le (up1 pa k (nI 108))) [some (.ref (ma 0)), some (.int (nI k)), some (.int (nI 108))] [.int (nI ((dgt t 2 (nd t 32 (nd t 116 (nd t 105 (nd t 109 (nd t 105 (false, p + 1))))))).2)), .int (nI (k + 1)), .ref (ma 7)] 267
    refine r_iast_I (ws' := wM cy ma rb33 e g bf hy sv bu le (up1 (up1 pa k (nI 108)) (k + 1) (nI ((dgt t 2 (nd t 32 (nd t 116 (nd t 105 (nd t 109 (nd t 105 (false, p + 1))))))).2)))) (pc' := 268) hX dX6_parsesCommand_267 (by rw [hcy]) 7 rfl (by omega) (by decide) rfl rfl ?_
    refine r_goto (tgt := 312) hX dX6_parsesCommand_268 (by decide) ?_
    exact r_vreturn hX hE dX6_parsesCommand_312 rfl ⟨rfl, _, _, rfl, CC_of (y := (dgt t 2 (nd t 32 (nd t 116 (nd t 105 (nd t 109 (nd t 105 (false, p + 1))))))).1) (ns := [((dgt t 2 (nd t 32 (nd t 116 (nd t 105 (nd t 109 (nd t 105 (false, p + 1))))))).2)]) (fi_108 q108) (by decide) (by rw [show frm 7 = 108 :: [105, 109, 105, 116, 32, 42] from rfl, tf_cons, sgn_nd q108 (by decide) (by decide)]; exact rfl) hQ33 (fun j hj => by (try simp only [up1]); (repeat' split) <;> (first | rfl | omega)) (by show _ = nI 108; simp [up1]) (ns1 (by simp [up1]))⟩ (by decide) (by decide)
  by_cases q115 : hr t p = 115
  · have eI115 : (hrI t (false, p).2) = nI 115 := by rw [show hrI t (false, p).2 = nI (hr t p) from hrI_n (p := p) hch (by omega), q115]
    rw [eI115]
    refine r_tabN (tgt := 271) hX dX6_parsesCommand_23 (by decide) (by decide) (by decide) rfl (by decide) ?_
    refine r_aload_n (pc' := 272) hX dX6_parsesCommand_271 rfl rfl ?_
    refine r_bipush (pc' := 274) (v := nI 116) hX dX6_parsesCommand_272 rfl rfl ?_
    refine r_bipush (pc' := 276) (v := nI 101) hX dX6_parsesCommand_274 rfl rfl ?_
    refine r_bipush (pc' := 278) (v := nI 112) hX dX6_parsesCommand_276 rfl rfl ?_
    refine V_call0 (k' := 0) (n' := 0) (pc' := 281) hX (r_runV (As := [.int (nI 116), .int (nI 101), .int (nI 112)]) hX dX6_parsesCommand_278 k_X6_182 (fun l9 hl9 => cM_needsThree (r0 := r) (t := t) (x := (false, p + 1)) hB hch hP1 (by omega) (by omega) (by omega)) hG ⟨8, _, TX6, 16, List.mem_cons_self, rfl⟩ rfl rfl (Nat.le_of_ble_eq_true rfl) (by decide) (by decide) (by decide) (by decide)) rfl rfl rfl (fun w9 u9 hp9 => ?_)
    obtain ⟨rfl, rb34, rfl, hQ34⟩ := hp9
    change V X 0 0 (wM cy ma rb34 e g bf hy sv bu le (up1 pa k (nI 115))) [some (.ref (ma 0)), some (.int (nI k)), some (.int (nI 115))] [] 281
    refine r_aload_n (pc' := 282) hX dX6_parsesCommand_281 rfl rfl ?_
    refine r_get (pc' := 285) (v := .ref (ma 7)) hX dX6_parsesCommand_282 f_X6_36 0 rfl rfl rfl ?_
    refine r_iload_n (pc' := 286) hX dX6_parsesCommand_285 rfl rfl ?_
    refine r_iconst (pc' := 287) (v := nI 1) hX dX6_parsesCommand_286 rfl rfl ?_
    refine r_iadd_N (pc' := 288) hX dX6_parsesCommand_287  rfl ?_
    refine r_aload_n (pc' := 289) hX dX6_parsesCommand_288 rfl rfl ?_
    refine r_iconst (pc' := 290) (v := nI 1) hX dX6_parsesCommand_289 rfl rfl ?_
    refine V_call0 (k' := 0) (n' := 0) (pc' := 293) hX (r_runV (As := [.int (nI 1)]) hX dX6_parsesCommand_290 k_X6_186 (fun l9 hl9 => cM_behindBlank1 (r0 := r) (t := t) (x := (nd t 112 (nd t 101 (nd t 116 (false, p + 1))))) hB hch hQ34) hG ⟨8, _, TX6, 16, List.mem_cons_self, rfl⟩ rfl rfl (Nat.le_of_ble_eq_true rfl) (by decide) (by decide) (by decide) (by decide)) rfl rfl rfl (fun w9 u9 hp9 => ?_)
    obtain ⟨rfl, rb35, rfl, hQ35⟩ := hp9
    change V X 0 0 (wM cy ma rb35 e g bf hy sv bu le (up1 pa k (nI 115))) [some (.ref (ma 0)), some (.int (nI k)), some (.int (nI 115))] [.int (nI ((dgt t 1 (nd t 32 (nd t 112 (nd t 101 (nd t 116 (false, p + 1)))))).2)), .int (nI (k + 1)), .ref (ma 7)] 293
    refine r_iast_I (ws' := wM cy ma rb35 e g bf hy sv bu le (up1 (up1 pa k (nI 115)) (k + 1) (nI ((dgt t 1 (nd t 32 (nd t 112 (nd t 101 (nd t 116 (false, p + 1)))))).2)))) (pc' := 294) hX dX6_parsesCommand_293 (by rw [hcy]) 7 rfl (by omega) (by decide) rfl rfl ?_
    refine r_goto (tgt := 312) hX dX6_parsesCommand_294 (by decide) ?_
    exact r_vreturn hX hE dX6_parsesCommand_312 rfl ⟨rfl, _, _, rfl, CC_of (y := (dgt t 1 (nd t 32 (nd t 112 (nd t 101 (nd t 116 (false, p + 1)))))).1) (ns := [((dgt t 1 (nd t 32 (nd t 112 (nd t 101 (nd t 116 (false, p + 1)))))).2)]) (fi_115 q115) (by decide) (by rw [show frm 8 = 115 :: [116, 101, 112, 32, 35] from rfl, tf_cons, sgn_nd q115 (by decide) (by decide)]; exact rfl) hQ35 (fun j hj => by (try simp only [up1]); (repeat' split) <;> (first | rfl | omega)) (by show _ = nI 115; simp [up1]) (ns1 (by simp [up1]))⟩ (by decide) (by decide)
  refine r_tabO (tgt := 297) hX dX6_parsesCommand_23 (tab_def hch ⟨q97, q109, q98, q99, q116, q114, q108, q115⟩) (by decide) ?_
  refine r_aload_n (pc' := 298) hX dX6_parsesCommand_297 rfl rfl ?_
  refine r_iconst (pc' := 299) (v := nI 1) hX dX6_parsesCommand_298 rfl rfl ?_
  refine r_put (ws' := wM cy ma (up1 (up1 r 5 ((r 5) + 1)) 6 1) e g bf hy sv bu le (up1 pa k (hrI t (false, p).2))) (pc' := 302) hX dX6_parsesCommand_299 f_X6_168 fw_X6_14 0 rfl rfl rfl (Nat.le_of_ble_eq_true rfl) rfl rfl ?_
  refine r_aload_n (pc' := 303) hX dX6_parsesCommand_302 rfl rfl ?_
  refine r_dup (pc' := 304) hX dX6_parsesCommand_303 rfl rfl ?_
  refine r_get (pc' := 307) (v := .int (nI ((r 5) + 1))) hX dX6_parsesCommand_304 f_X6_165 0 rfl rfl rfl ?_
  refine r_iconst (pc' := 308) (v := nI 1) hX dX6_parsesCommand_307 rfl rfl ?_
  refine r_isub_N (pc' := 309) hX dX6_parsesCommand_308 (by omega) rfl ?_
  refine r_put (ws' := wM cy ma (up1 (up1 (up1 r 5 ((r 5) + 1)) 6 1) 5 (((r 5) + 1) - 1)) e g bf hy sv bu le (up1 pa k (hrI t (false, p).2))) (pc' := 312) hX dX6_parsesCommand_309 f_X6_165 fw_X6_13 0 rfl rfl rfl (Nat.le_of_ble_eq_true rfl) rfl rfl ?_
  exact r_vreturn hX hE dX6_parsesCommand_312 rfl ⟨rfl, _, _, rfl, CC_no (fi_no ⟨q97, q109, q98, q99, q116, q114, q108, q115⟩) (PS_to hP (fun j q1 q2 => by rw [up1_ne q1, up1_ne q2, up1_ne q1]) (by show r 5 + 1 - 1 = p; omega) rfl (by show p ≤ 61; omega)) (fun j hj => by (try simp only [up1]); (repeat' split) <;> (first | rfl | omega))⟩ (by decide) (by decide)
