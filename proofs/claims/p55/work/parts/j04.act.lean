/-! ===== the law's calls that catch ===== -/
theorem MGL_of {l : Launch} {y : MethodName} {cc : ByteArray} {maxL : Nat} {ret : Option FieldType} {d mc ms : Nat} {G : xG} {av : List Value} {ws : va_W} {P : Option Value → va_W → Prop} {own : String} (hpl : plainName y.cls = true) (ho : y.cls = own) (hc : ∀ v ∈ av, v.category = 1) (hn : av.length ≤ maxL)
    {L : List (Option Value)} (hL : ∀ (i : Nat) (v : Value), L[i]? = some (some v) → av[i]? = some v)
    (body : ∀ X : xC, Ok SF X cc own d mc ms → Ends X ret mc ms ws P → c0_nL X = maxL → c0_G X = G → c0_l X = l → V X 0 0 ws L [] 0) : MG l y cc maxL ret d mc ms G av ws P := by
  intro sz
  refine Met.ofW (cc := cc) (maxL := maxL) (ret := ret) hpl rfl ?_
  intro p e s m args below meth c s₁ B hml hv
  obtain ⟨rfl, hsz, hP, hK, hD, hF, hNw⟩ := hv
  subst hsz
  have hts := atoms_spec (ws := wO y cc maxL ret) B.pre
  have hown : s.vm.findClass own = some m.cls := by rw [← ho]; exact findClass_of_methodNamed B.named
  have h := body (p, l, e, rmD d mc ms, s, m, av.toArray, below, meth, c, maxL, G, va_A ws s.heap.size, MQ below (QG G ws s.heap.size P) av.toArray s mc ms (va_A ws s.heap.size))
    ⟨B.exec, B.bytes, hown, fun w hw => hts w (List.mem_cons_of_mem _ hw), hK, fun q h => Or.inr h, B.notSynchronized, hml, ⟨Nat.le_refl _, Nat.le_refl _, Nat.le_refl _, Nat.le_refl _⟩, hF, hNw⟩ ⟨B.returns, rfl, fun _ _ _ _ _ h => h⟩ rfl rfl rfl
  rw [lg_entry_eq]
  exact h s.heap [] _ hP hD.self va_S.rf (lo_entry av maxL hc hn hL)
/-- as MG_by, and the launch is told -/
theorem MGL_by {l : Launch} {y : MethodName} {cc : ByteArray} {maxL : Nat} {ret : Option FieldType} {d mc ms : Nat} {D : va_G} {cy : Nat → ClassId} {sa : Nat → Nat} {av : List Value} {ws : va_W} {P : Option Value → va_W → Prop} {own : String} {L : List (Option Value)} (hpl : plainName y.cls = true) (ho : y.cls = own) (hc : (av.all fun v => v.category == 1) = true) (hn : av.length ≤ maxL) (z : Nat) (hL : av.map some ++ List.replicate z none = L)
    (body : ∀ X : xC, Ok SF X cc own d mc ms → Ends X ret mc ms ws P → c0_nL X = maxL → c0_G X = (D, cy, sa) → c0_cy X = cy → c0_l X = l → V X 0 0 ws L [] 0) : MG l y cc maxL ret d mc ms (D, cy, sa) av ws P := by
  subst hL
  exact MGL_of hpl ho (cat1 hc) hn (lo_of z) (fun X h1 h2 h3 h4 h5 => body X h1 h2 h3 h4 (congrArg (fun g : xG => g.2.1) h4) h5)
theorem FS_recv {cy : Nat → ClassId} {f : Nat} {S : AS} {ws : va_W} (h : FS cy f S ws) : ∃ (ci : Nat) (fs : List Value) (T : u_T) (N : Nat), (f, Sum.inr (ci, fs)) ∈ ws ∧ vwCl[ci]? = some (RX5, T, N) := by
  obtain ⟨fa, s, o, pr, un, hs, an, e1, e2, fc, SC, OB, sn, AD, VS, rfl, hF⟩ := h
  exact ⟨7, _, TX5, 9, List.mem_cons_self, rfl⟩
/-- the classes that the law's tables name, by their pool entries; which of exL they are -/
def ctL : List (Nat × Nat) := [(74, 2), (76, 0), (78, 1), (80, 3), (82, 4)]
theorem ct_link : ∀ q ∈ ctL, q.1 ≠ 0 ∧ q.2 < 5 ∧ Cond.classLink RL q.1 (exL.getD q.2 "") ∈ T0 := by
  intro q hq
  simp only [ctL, List.mem_cons, List.not_mem_nil, or_false] at hq
  rcases hq with rfl | rfl | rfl | rfl | rfl
  · exact ⟨by decide, by decide, m5 (j := 173) rfl rfl⟩
  · exact ⟨by decide, by decide, m5 (j := 176) rfl rfl⟩
  · exact ⟨by decide, by decide, m5 (j := 177) rfl rfl⟩
  · exact ⟨by decide, by decide, m5 (j := 178) rfl rfl⟩
  · exact ⟨by decide, by decide, m5 (j := 179) rfl rfl⟩
theorem ct_cast : ∀ e, e < 5 → Cond.castable (exL.getD e "") (exL.getD e "") ∈ N0 ∧ (Cond.castable (exL.getD e "") (exL.getD e "")).onTables = true := by
  intro e he
  match e, he with
  | 0, _ => exact ⟨n2 (j := 131) rfl rfl, rfl⟩
  | 1, _ => exact ⟨n2 (j := 147) rfl rfl, rfl⟩
  | 2, _ => exact ⟨n2 (j := 59) rfl rfl, rfl⟩
  | 3, _ => exact ⟨n2 (j := 163) rfl rfl, rfl⟩
  | 4, _ => exact ⟨n2 (j := 179) rfl rfl, rfl⟩
  | e + 5, h => exact absurd h (by omega)
theorem VX_ct {X : xC} {cc : ByteArray} {d mc ms : Nat} {k n : Nat} {ws : va_W} {L : List (Option Value)} {rest : List Value} {pc : Nat} {hh : List (Nat × Nat × Nat × Nat)} (hX : Ok SF X cc RL d mc ms) (hT : Tab X hh) (e i : Nat) (x : ExceptionTableEntry) (he : e < 5) (hi : (tableOf hh)[i]? = some x)
    (hpass : ((tableOf hh).take i).all (fun z => !covers z pc || ctL.any (fun q => q.1 == z.catchType && !(q.2 == e))) = true) (hx0 : covers x pc = true) (hx1 : ctL.contains (x.catchType, e) = true) (h : ∀ q : Nat, V X k n ws L [.ref q] x.handlerPc) : VX X k n ws L rest pc (exL.getD e "") := by
  have hm : (x.catchType, e) ∈ ctL := by simpa using hx1
  obtain ⟨a1, a2, a3⟩ := ct_link _ hm
  have hsplit : tableOf hh = (tableOf hh).take i ++ x :: (tableOf hh).drop (i + 1) := by
    obtain ⟨hlt, hx⟩ := List.getElem?_eq_some_iff.mp hi
    rw [← hx, List.getElem_cons_drop, List.take_append_drop]
  refine VX_catch hX hT _ x _ hsplit (fun z hz => ?_) hx0 a1 a3 (ct_cast e he) h
  have h1 := List.all_eq_true.mp hpass z hz
  rw [Bool.or_eq_true] at h1
  rcases h1 with h1 | h1
  · exact Or.inl (by revert h1; generalize covers z pc = b; cases b <;> decide)
  · obtain ⟨q, hq, h2⟩ := List.any_eq_true.mp h1
    rw [Bool.and_eq_true] at h2
    obtain ⟨b1, b2, b3⟩ := ct_link q hq
    have e1 : q.1 = z.catchType := by simpa using h2.1
    have e2 : q.2 ≠ e := by simpa using h2.2
    exact Or.inr ⟨by rw [← e1]; exact b1, _, by rw [← e1]; exact b3, e, q.2, by omega, b2, fun w => e2 w.symm, rfl, rfl⟩
theorem oExam_01 {v : SV} {x : Int32} (h : 0 ≤ (oExam v x).1.toInt) : (oExam v x).1 = nI 1 ∨ (oExam v x).1 = nI 0 := by
  unfold oExam at h ⊢
  repeat' split at h
  all_goals first | exact absurd (show (0 : Int) ≤ (-3 : Int32).toInt from h) (by decide) | exact absurd (show (0 : Int) ≤ (-5 : Int32).toInt from h) (by decide) | skip
  · rename_i h1 h2 h3
    rw [if_pos h1, if_pos h2, if_pos h3]; exact Or.inl rfl
  · rename_i h1 h2 h3
    rw [if_pos h1, if_pos h2, if_neg h3]; exact Or.inr rfl
/-- what runs answers -/
def rnR (x : Int32) : Int32 := if x = -2 then -1 else if x = -3 then -2 else x
set_option maxRecDepth 20000 in
set_option maxHeartbeats 1000000 in
theorem cA_0 {l : Launch} {D : va_G} {cy : Nat → ClassId} {sa : Nat → Nat} {f K : Nat} {S : AS} {ws : va_W} {a b c : Int32} (hF : FS cy f S ws) (hA : AJ K S) (hst : l.stackTraces = false) : MGW l yL_act cL_act 6 (some .int) [(0, 56, 117, 74), (57, 62, 117, 74), (63, 69, 117, 74), (70, 78, 117, 74), (79, 92, 117, 74), (93, 98, 117, 74), (99, 104, 117, 74), (105, 110, 117, 74), (111, 116, 117, 74), (0, 56, 121, 76), (57, 62, 121, 76), (63, 69, 121, 76), (70, 78, 121, 76), (79, 92, 121, 76), (93, 98, 121, 76), (99, 104, 121, 76), (105, 110, 121, 76), (111, 116, 121, 76), (0, 56, 126, 78), (57, 62, 126, 78), (63, 69, 126, 78), (70, 78, 126, 78), (79, 92, 126, 78), (93, 98, 126, 78), (99, 104, 126, 78), (105, 110, 126, 78), (111, 116, 126, 78), (0, 56, 131, 80), (57, 62, 131, 80), (63, 69, 131, 80), (70, 78, 131, 80), (79, 92, 131, 80), (93, 98, 131, 80), (99, 104, 131, 80), (105, 110, 131, 80), (111, 116, 131, 80), (0, 56, 136, 82), (57, 62, 136, 82), (63, 69, 136, 82), (70, 78, 136, 82), (79, 92, 136, 82), (93, 98, 136, 82), (99, 104, 136, 82), (105, 110, 136, 82), (111, 116, 136, 82)] 9 1 6 (D, cy, sa) [.ref f, .int (nI 0), .int a, .int b, .int c] (ws) (fun w u => w = some (.int (oMix S.1 a b c).1) ∧ FS cy f (aMut S (oMix S.1 a b c)) u) := by
  have hv : Wf S.1 := hA.1.1.1.1
  have hq9 : 0 ≤ ((oMix S.1 a b c).1).toInt ∨ ((oMix S.1 a b c).1) = -2 ∨ ((oMix S.1 a b c).1) = -3 := (by
    rcases CO_cases (oMix_co hv) with h9 | ⟨h9, g9⟩ | ⟨h9, g9⟩ | ⟨h9, g9⟩ | ⟨h9, g9⟩ | ⟨h9, g9⟩
    all_goals first | exact absurd rfl g9 | exact Or.inl h9 | exact Or.inr (Or.inl h9) | exact Or.inr (Or.inr (h9)))
  refine MGW_by (own := RL) (L := [some (.ref f), some (.int (nI 0)), some (.int a), some (.int b), some (.int c), none]) (by decide +kernel) rfl rfl (Nat.le_of_ble_eq_true rfl) 1 rfl (fun X hX hE hT hnL hG hcy hl => ?_)
  refine r_iload_n (pc' := 1) hX dL_act_0 rfl rfl ?_
  refine r_tabN (tgt := 48) hX dL_act_1 (by decide) (by decide) (by decide) rfl (by decide) ?_
  refine r_aload_n (pc' := 49) hX dL_act_48 rfl rfl ?_
  refine r_iload_n (pc' := 50) hX dL_act_49 rfl rfl ?_
  refine r_iload_n (pc' := 51) hX dL_act_50 rfl rfl ?_
  refine r_iload (pc' := 53) hX dL_act_51 rfl rfl ?_
  refine V_call0X (k' := 1) (n' := 6) (pc' := 56) hX (r_runVX (As := [.int a, .int b, .int c]) hX dL_act_53 k_L_44 (fun l9 hl9 => by cases hl9; exact cF_addAlloy (v := S.1) rfl hF hA.1 (hst := (by rw [hl]; exact hst))) hG (FS_recv hF) rfl rfl (Nat.le_of_ble_eq_true rfl) (by decide) (by decide) (by decide) (by decide)) rfl rfl rfl (fun w9 u9 hp9 => ?_) ?_
  · obtain ⟨okq, rfl, hS9⟩ := hp9
    change V X 1 6 (u9) [some (.ref f), some (.int (nI 0)), some (.int a), some (.int b), some (.int c), none] [.int ((oMix S.1 a b c).1)] 56
    have hq0 : 0 ≤ ((oMix S.1 a b c).1).toInt := by
      rcases hq9 with h9 | h9 | h9
      · exact h9
      · exact absurd (show noA ((oMix S.1 a b c).1) from by rw [h9]; decide) okq
      · exact absurd (show noA ((oMix S.1 a b c).1) from by rw [h9]; decide) okq
    exact r_ireturn hX hE dL_act_56 rfl ⟨rfl, by unfold aMut; rw [if_neg (by omega)]; exact hS9⟩ (by omega) (by omega)
  · intro E9 u9 hp9
    obtain ⟨hx9, hE9, hS9⟩ := hp9
    rcases hq9 with hq | hq | hq
    · exact absurd hq (by omega)
    · have hE8 : E9 = exL.getD 0 "" := by rw [hE9, hq]; rfl
      subst hE8
      refine VX_ct hX hT 0 9 ⟨0, 56, 121, 76⟩ (by decide) rfl (by decide +kernel) (by decide +kernel) (by decide +kernel) (fun q9 => ?_)
      refine r_astore (L' := [some (.ref f), some (.int (nI 0)), some (.int a), some (.int b), some (.int c), some (.ref q9)]) (pc' := 123) hX dL_act_121 (nlt hnL (by decide)) rfl rfl rfl ?_
      refine r_bipush (pc' := 125) (v := (-2)) hX dL_act_123 rfl rfl ?_
      exact r_ireturn hX hE dL_act_125 rfl ⟨by rw [hq], by unfold aMut; rw [if_pos (by rw [hq]; decide)]; exact hS9⟩ (by decide) (by decide)
    · have hE8 : E9 = exL.getD 1 "" := by rw [hE9, hq]; rfl
      subst hE8
      refine VX_ct hX hT 1 18 ⟨0, 56, 126, 78⟩ (by decide) rfl (by decide +kernel) (by decide +kernel) (by decide +kernel) (fun q9 => ?_)
      refine r_astore (L' := [some (.ref f), some (.int (nI 0)), some (.int a), some (.int b), some (.int c), some (.ref q9)]) (pc' := 128) hX dL_act_126 (nlt hnL (by decide)) rfl rfl rfl ?_
      refine r_bipush (pc' := 130) (v := (-3)) hX dL_act_128 rfl rfl ?_
      exact r_ireturn hX hE dL_act_130 rfl ⟨by rw [hq], by unfold aMut; rw [if_pos (by rw [hq]; decide)]; exact hS9⟩ (by decide) (by decide)

set_option maxRecDepth 20000 in
set_option maxHeartbeats 1000000 in
theorem cA_1 {l : Launch} {D : va_G} {cy : Nat → ClassId} {sa : Nat → Nat} {f K : Nat} {S : AS} {ws : va_W} {a b c : Int32} (hF : FS cy f S ws) (hA : AJ K S) (hst : l.stackTraces = false) : MGW l yL_act cL_act 6 (some .int) [(0, 56, 117, 74), (57, 62, 117, 74), (63, 69, 117, 74), (70, 78, 117, 74), (79, 92, 117, 74), (93, 98, 117, 74), (99, 104, 117, 74), (105, 110, 117, 74), (111, 116, 117, 74), (0, 56, 121, 76), (57, 62, 121, 76), (63, 69, 121, 76), (70, 78, 121, 76), (79, 92, 121, 76), (93, 98, 121, 76), (99, 104, 121, 76), (105, 110, 121, 76), (111, 116, 121, 76), (0, 56, 126, 78), (57, 62, 126, 78), (63, 69, 126, 78), (70, 78, 126, 78), (79, 92, 126, 78), (93, 98, 126, 78), (99, 104, 126, 78), (105, 110, 126, 78), (111, 116, 126, 78), (0, 56, 131, 80), (57, 62, 131, 80), (63, 69, 131, 80), (70, 78, 131, 80), (79, 92, 131, 80), (93, 98, 131, 80), (99, 104, 131, 80), (105, 110, 131, 80), (111, 116, 131, 80), (0, 56, 136, 82), (57, 62, 136, 82), (63, 69, 136, 82), (70, 78, 136, 82), (79, 92, 136, 82), (93, 98, 136, 82), (99, 104, 136, 82), (105, 110, 136, 82), (111, 116, 136, 82)] 9 1 6 (D, cy, sa) [.ref f, .int (nI 1), .int a, .int b, .int c] (ws) (fun w u => w = some (.int (oMould S.1 a).1) ∧ FS cy f (aMut S (oMould S.1 a)) u) := by
  have hv : Wf S.1 := hA.1.1.1.1
  have hq9 : 0 ≤ ((oMould S.1 a).1).toInt ∨ ((oMould S.1 a).1) = -2 ∨ ((oMould S.1 a).1) = -3 := (by
    rcases CO_cases (oMould_co hv) with h9 | ⟨h9, g9⟩ | ⟨h9, g9⟩ | ⟨h9, g9⟩ | ⟨h9, g9⟩ | ⟨h9, g9⟩
    all_goals first | exact absurd rfl g9 | exact Or.inl h9 | exact Or.inr (Or.inl h9) | exact Or.inr (Or.inr (h9)))
  refine MGW_by (own := RL) (L := [some (.ref f), some (.int (nI 1)), some (.int a), some (.int b), some (.int c), none]) (by decide +kernel) rfl rfl (Nat.le_of_ble_eq_true rfl) 1 rfl (fun X hX hE hT hnL hG hcy hl => ?_)
  refine r_iload_n (pc' := 1) hX dL_act_0 rfl rfl ?_
  refine r_tabN (tgt := 57) hX dL_act_1 (by decide) (by decide) (by decide) rfl (by decide) ?_
  refine r_aload_n (pc' := 58) hX dL_act_57 rfl rfl ?_
  refine r_iload_n (pc' := 59) hX dL_act_58 rfl rfl ?_
  refine V_call0X (k' := 1) (n' := 6) (pc' := 62) hX (r_runVX (As := [.int a]) hX dL_act_59 k_L_48 (fun l9 hl9 => by cases hl9; exact cF_addMould (v := S.1) rfl hF hA.1 (hst := (by rw [hl]; exact hst))) hG (FS_recv hF) rfl rfl (Nat.le_of_ble_eq_true rfl) (by decide) (by decide) (by decide) (by decide)) rfl rfl rfl (fun w9 u9 hp9 => ?_) ?_
  · obtain ⟨okq, rfl, hS9⟩ := hp9
    change V X 1 6 (u9) [some (.ref f), some (.int (nI 1)), some (.int a), some (.int b), some (.int c), none] [.int ((oMould S.1 a).1)] 62
    have hq0 : 0 ≤ ((oMould S.1 a).1).toInt := by
      rcases hq9 with h9 | h9 | h9
      · exact h9
      · exact absurd (show noA ((oMould S.1 a).1) from by rw [h9]; decide) okq
      · exact absurd (show noA ((oMould S.1 a).1) from by rw [h9]; decide) okq
    exact r_ireturn hX hE dL_act_62 rfl ⟨rfl, by unfold aMut; rw [if_neg (by omega)]; exact hS9⟩ (by omega) (by omega)
  · intro E9 u9 hp9
    obtain ⟨hx9, hE9, hS9⟩ := hp9
    rcases hq9 with hq | hq | hq
    · exact absurd hq (by omega)
    · have hE8 : E9 = exL.getD 0 "" := by rw [hE9, hq]; rfl
      subst hE8
      refine VX_ct hX hT 0 10 ⟨57, 62, 121, 76⟩ (by decide) rfl (by decide +kernel) (by decide +kernel) (by decide +kernel) (fun q9 => ?_)
      refine r_astore (L' := [some (.ref f), some (.int (nI 1)), some (.int a), some (.int b), some (.int c), some (.ref q9)]) (pc' := 123) hX dL_act_121 (nlt hnL (by decide)) rfl rfl rfl ?_
      refine r_bipush (pc' := 125) (v := (-2)) hX dL_act_123 rfl rfl ?_
      exact r_ireturn hX hE dL_act_125 rfl ⟨by rw [hq], by unfold aMut; rw [if_pos (by rw [hq]; decide)]; exact hS9⟩ (by decide) (by decide)
    · have hE8 : E9 = exL.getD 1 "" := by rw [hE9, hq]; rfl
      subst hE8
      refine VX_ct hX hT 1 19 ⟨57, 62, 126, 78⟩ (by decide) rfl (by decide +kernel) (by decide +kernel) (by decide +kernel) (fun q9 => ?_)
      refine r_astore (L' := [some (.ref f), some (.int (nI 1)), some (.int a), some (.int b), some (.int c), some (.ref q9)]) (pc' := 128) hX dL_act_126 (nlt hnL (by decide)) rfl rfl rfl ?_
      refine r_bipush (pc' := 130) (v := (-3)) hX dL_act_128 rfl rfl ?_
      exact r_ireturn hX hE dL_act_130 rfl ⟨by rw [hq], by unfold aMut; rw [if_pos (by rw [hq]; decide)]; exact hS9⟩ (by decide) (by decide)

set_option maxRecDepth 20000 in
set_option maxHeartbeats 1000000 in
theorem cA_2 {l : Launch} {D : va_G} {cy : Nat → ClassId} {sa : Nat → Nat} {f K : Nat} {S : AS} {ws : va_W} {a b c : Int32} (hF : FS cy f S ws) (hA : AJ K S) (hst : l.stackTraces = false) : MGW l yL_act cL_act 6 (some .int) [(0, 56, 117, 74), (57, 62, 117, 74), (63, 69, 117, 74), (70, 78, 117, 74), (79, 92, 117, 74), (93, 98, 117, 74), (99, 104, 117, 74), (105, 110, 117, 74), (111, 116, 117, 74), (0, 56, 121, 76), (57, 62, 121, 76), (63, 69, 121, 76), (70, 78, 121, 76), (79, 92, 121, 76), (93, 98, 121, 76), (99, 104, 121, 76), (105, 110, 121, 76), (111, 116, 121, 76), (0, 56, 126, 78), (57, 62, 126, 78), (63, 69, 126, 78), (70, 78, 126, 78), (79, 92, 126, 78), (93, 98, 126, 78), (99, 104, 126, 78), (105, 110, 126, 78), (111, 116, 126, 78), (0, 56, 131, 80), (57, 62, 131, 80), (63, 69, 131, 80), (70, 78, 131, 80), (79, 92, 131, 80), (93, 98, 131, 80), (99, 104, 131, 80), (105, 110, 131, 80), (111, 116, 131, 80), (0, 56, 136, 82), (57, 62, 136, 82), (63, 69, 136, 82), (70, 78, 136, 82), (79, 92, 136, 82), (93, 98, 136, 82), (99, 104, 136, 82), (105, 110, 136, 82), (111, 116, 136, 82)] 9 1 6 (D, cy, sa) [.ref f, .int (nI 2), .int a, .int b, .int c] (ws) (fun w u => w = some (.int (oBuy S.1 a b).1) ∧ FS cy f (aMut S (oBuy S.1 a b)) u) := by
  have hv : Wf S.1 := hA.1.1.1.1
  have hq9 : 0 ≤ ((oBuy S.1 a b).1).toInt ∨ ((oBuy S.1 a b).1) = -1 ∨ ((oBuy S.1 a b).1) = -2 ∨ ((oBuy S.1 a b).1) = -3 := (by
    rcases CO_cases (oBuy_co hv) with h9 | ⟨h9, g9⟩ | ⟨h9, g9⟩ | ⟨h9, g9⟩ | ⟨h9, g9⟩ | ⟨h9, g9⟩
    all_goals first | exact absurd rfl g9 | exact Or.inl h9 | exact Or.inr (Or.inl h9) | exact Or.inr (Or.inr (Or.inl h9)) | exact Or.inr (Or.inr (Or.inr (h9))))
  refine MGW_by (own := RL) (L := [some (.ref f), some (.int (nI 2)), some (.int a), some (.int b), some (.int c), none]) (by decide +kernel) rfl rfl (Nat.le_of_ble_eq_true rfl) 1 rfl (fun X hX hE hT hnL hG hcy hl => ?_)
  refine r_iload_n (pc' := 1) hX dL_act_0 rfl rfl ?_
  refine r_tabN (tgt := 63) hX dL_act_1 (by decide) (by decide) (by decide) rfl (by decide) ?_
  refine r_aload_n (pc' := 64) hX dL_act_63 rfl rfl ?_
  refine r_iload_n (pc' := 65) hX dL_act_64 rfl rfl ?_
  refine r_iload_n (pc' := 66) hX dL_act_65 rfl rfl ?_
  refine V_call0X (k' := 1) (n' := 6) (pc' := 69) hX (r_runVX (As := [.int a, .int b]) hX dL_act_66 k_L_51 (fun l9 hl9 => by cases hl9; exact cF_buy (v := S.1) rfl hF hA.1 (hst := (by rw [hl]; exact hst))) hG (FS_recv hF) rfl rfl (Nat.le_of_ble_eq_true rfl) (by decide) (by decide) (by decide) (by decide)) rfl rfl rfl (fun w9 u9 hp9 => ?_) ?_
  · obtain ⟨okq, rfl, hS9⟩ := hp9
    change V X 1 6 (u9) [some (.ref f), some (.int (nI 2)), some (.int a), some (.int b), some (.int c), none] [.int ((oBuy S.1 a b).1)] 69
    have hq0 : 0 ≤ ((oBuy S.1 a b).1).toInt := by
      rcases hq9 with h9 | h9 | h9 | h9
      · exact h9
      · exact absurd (show noA ((oBuy S.1 a b).1) from by rw [h9]; decide) okq
      · exact absurd (show noA ((oBuy S.1 a b).1) from by rw [h9]; decide) okq
      · exact absurd (show noA ((oBuy S.1 a b).1) from by rw [h9]; decide) okq
    exact r_ireturn hX hE dL_act_69 rfl ⟨rfl, by unfold aMut; rw [if_neg (by omega)]; exact hS9⟩ (by omega) (by omega)
  · intro E9 u9 hp9
    obtain ⟨hx9, hE9, hS9⟩ := hp9
    rcases hq9 with hq | hq | hq | hq
    · exact absurd hq (by omega)
    · have hE8 : E9 = exL.getD 2 "" := by rw [hE9, hq]; rfl
      subst hE8
      refine VX_ct hX hT 2 2 ⟨63, 69, 117, 74⟩ (by decide) rfl (by decide +kernel) (by decide +kernel) (by decide +kernel) (fun q9 => ?_)
      refine r_astore (L' := [some (.ref f), some (.int (nI 2)), some (.int a), some (.int b), some (.int c), some (.ref q9)]) (pc' := 119) hX dL_act_117 (nlt hnL (by decide)) rfl rfl rfl ?_
      refine r_iconst (pc' := 120) (v := (-1)) hX dL_act_119 rfl rfl ?_
      exact r_ireturn hX hE dL_act_120 rfl ⟨by rw [hq], by unfold aMut; rw [if_pos (by rw [hq]; decide)]; exact hS9⟩ (by decide) (by decide)
    · have hE8 : E9 = exL.getD 0 "" := by rw [hE9, hq]; rfl
      subst hE8
      refine VX_ct hX hT 0 11 ⟨63, 69, 121, 76⟩ (by decide) rfl (by decide +kernel) (by decide +kernel) (by decide +kernel) (fun q9 => ?_)
      refine r_astore (L' := [some (.ref f), some (.int (nI 2)), some (.int a), some (.int b), some (.int c), some (.ref q9)]) (pc' := 123) hX dL_act_121 (nlt hnL (by decide)) rfl rfl rfl ?_
      refine r_bipush (pc' := 125) (v := (-2)) hX dL_act_123 rfl rfl ?_
      exact r_ireturn hX hE dL_act_125 rfl ⟨by rw [hq], by unfold aMut; rw [if_pos (by rw [hq]; decide)]; exact hS9⟩ (by decide) (by decide)
    · have hE8 : E9 = exL.getD 1 "" := by rw [hE9, hq]; rfl
      subst hE8
      refine VX_ct hX hT 1 20 ⟨63, 69, 126, 78⟩ (by decide) rfl (by decide +kernel) (by decide +kernel) (by decide +kernel) (fun q9 => ?_)
      refine r_astore (L' := [some (.ref f), some (.int (nI 2)), some (.int a), some (.int b), some (.int c), some (.ref q9)]) (pc' := 128) hX dL_act_126 (nlt hnL (by decide)) rfl rfl rfl ?_
      refine r_bipush (pc' := 130) (v := (-3)) hX dL_act_128 rfl rfl ?_
      exact r_ireturn hX hE dL_act_130 rfl ⟨by rw [hq], by unfold aMut; rw [if_pos (by rw [hq]; decide)]; exact hS9⟩ (by decide) (by decide)

set_option maxRecDepth 20000 in
set_option maxHeartbeats 1000000 in
theorem cA_3 {l : Launch} {D : va_G} {cy : Nat → ClassId} {sa : Nat → Nat} {f K : Nat} {S : AS} {ws : va_W} {a b c : Int32} (hF : FS cy f S ws) (hA : AJ K S) (hst : l.stackTraces = false) : MGW l yL_act cL_act 6 (some .int) [(0, 56, 117, 74), (57, 62, 117, 74), (63, 69, 117, 74), (70, 78, 117, 74), (79, 92, 117, 74), (93, 98, 117, 74), (99, 104, 117, 74), (105, 110, 117, 74), (111, 116, 117, 74), (0, 56, 121, 76), (57, 62, 121, 76), (63, 69, 121, 76), (70, 78, 121, 76), (79, 92, 121, 76), (93, 98, 121, 76), (99, 104, 121, 76), (105, 110, 121, 76), (111, 116, 121, 76), (0, 56, 126, 78), (57, 62, 126, 78), (63, 69, 126, 78), (70, 78, 126, 78), (79, 92, 126, 78), (93, 98, 126, 78), (99, 104, 126, 78), (105, 110, 126, 78), (111, 116, 126, 78), (0, 56, 131, 80), (57, 62, 131, 80), (63, 69, 131, 80), (70, 78, 131, 80), (79, 92, 131, 80), (93, 98, 131, 80), (99, 104, 131, 80), (105, 110, 131, 80), (111, 116, 131, 80), (0, 56, 136, 82), (57, 62, 136, 82), (63, 69, 136, 82), (70, 78, 136, 82), (79, 92, 136, 82), (93, 98, 136, 82), (99, 104, 136, 82), (105, 110, 136, 82), (111, 116, 136, 82)] 9 1 6 (D, cy, sa) [.ref f, .int (nI 3), .int a, .int b, .int c] (ws) (fun w u => w = some (.int (oPour S.1 a b c).1) ∧ FS cy f (aMut S (oPour S.1 a b c)) u) := by
  have hv : Wf S.1 := hA.1.1.1.1
  have hq9 : 0 ≤ ((oPour S.1 a b c).1).toInt ∨ ((oPour S.1 a b c).1) = -1 ∨ ((oPour S.1 a b c).1) = -2 ∨ ((oPour S.1 a b c).1) = -3 ∨ ((oPour S.1 a b c).1) = -4 := (by
    rcases CO_cases (oPour_co hv) with h9 | ⟨h9, g9⟩ | ⟨h9, g9⟩ | ⟨h9, g9⟩ | ⟨h9, g9⟩ | ⟨h9, g9⟩
    all_goals first | exact absurd rfl g9 | exact Or.inl h9 | exact Or.inr (Or.inl h9) | exact Or.inr (Or.inr (Or.inl h9)) | exact Or.inr (Or.inr (Or.inr (Or.inl h9))) | exact Or.inr (Or.inr (Or.inr (Or.inr (h9)))))
  refine MGW_by (own := RL) (L := [some (.ref f), some (.int (nI 3)), some (.int a), some (.int b), some (.int c), none]) (by decide +kernel) rfl rfl (Nat.le_of_ble_eq_true rfl) 1 rfl (fun X hX hE hT hnL hG hcy hl => ?_)
  refine r_iload_n (pc' := 1) hX dL_act_0 rfl rfl ?_
  refine r_tabN (tgt := 70) hX dL_act_1 (by decide) (by decide) (by decide) rfl (by decide) ?_
  refine r_aload_n (pc' := 71) hX dL_act_70 rfl rfl ?_
  refine r_iload_n (pc' := 72) hX dL_act_71 rfl rfl ?_
  refine r_iload_n (pc' := 73) hX dL_act_72 rfl rfl ?_
  refine r_iload (pc' := 75) hX dL_act_73 rfl rfl ?_
  refine V_call0X (k' := 1) (n' := 6) (pc' := 78) hX (r_runVX (As := [.int a, .int b, .int c]) hX dL_act_75 k_L_55 (fun l9 hl9 => by cases hl9; exact cF_cast (v := S.1) rfl hF hA.1 (hst := (by rw [hl]; exact hst))) hG (FS_recv hF) rfl rfl (Nat.le_of_ble_eq_true rfl) (by decide) (by decide) (by decide) (by decide)) rfl rfl rfl (fun w9 u9 hp9 => ?_) ?_
  · obtain ⟨okq, rfl, hS9⟩ := hp9
    change V X 1 6 (u9) [some (.ref f), some (.int (nI 3)), some (.int a), some (.int b), some (.int c), none] [.int ((oPour S.1 a b c).1)] 78
    have hq0 : 0 ≤ ((oPour S.1 a b c).1).toInt := by
      rcases hq9 with h9 | h9 | h9 | h9 | h9
      · exact h9
      · exact absurd (show noA ((oPour S.1 a b c).1) from by rw [h9]; decide) okq
      · exact absurd (show noA ((oPour S.1 a b c).1) from by rw [h9]; decide) okq
      · exact absurd (show noA ((oPour S.1 a b c).1) from by rw [h9]; decide) okq
      · exact absurd (show noA ((oPour S.1 a b c).1) from by rw [h9]; decide) okq
    exact r_ireturn hX hE dL_act_78 rfl ⟨rfl, by unfold aMut; rw [if_neg (by omega)]; exact hS9⟩ (by omega) (by omega)
  · intro E9 u9 hp9
    obtain ⟨hx9, hE9, hS9⟩ := hp9
    rcases hq9 with hq | hq | hq | hq | hq
    · exact absurd hq (by omega)
    · have hE8 : E9 = exL.getD 2 "" := by rw [hE9, hq]; rfl
      subst hE8
      refine VX_ct hX hT 2 3 ⟨70, 78, 117, 74⟩ (by decide) rfl (by decide +kernel) (by decide +kernel) (by decide +kernel) (fun q9 => ?_)
      refine r_astore (L' := [some (.ref f), some (.int (nI 3)), some (.int a), some (.int b), some (.int c), some (.ref q9)]) (pc' := 119) hX dL_act_117 (nlt hnL (by decide)) rfl rfl rfl ?_
      refine r_iconst (pc' := 120) (v := (-1)) hX dL_act_119 rfl rfl ?_
      exact r_ireturn hX hE dL_act_120 rfl ⟨by rw [hq], by unfold aMut; rw [if_pos (by rw [hq]; decide)]; exact hS9⟩ (by decide) (by decide)
    · have hE8 : E9 = exL.getD 0 "" := by rw [hE9, hq]; rfl
      subst hE8
      refine VX_ct hX hT 0 12 ⟨70, 78, 121, 76⟩ (by decide) rfl (by decide +kernel) (by decide +kernel) (by decide +kernel) (fun q9 => ?_)
      refine r_astore (L' := [some (.ref f), some (.int (nI 3)), some (.int a), some (.int b), some (.int c), some (.ref q9)]) (pc' := 123) hX dL_act_121 (nlt hnL (by decide)) rfl rfl rfl ?_
      refine r_bipush (pc' := 125) (v := (-2)) hX dL_act_123 rfl rfl ?_
      exact r_ireturn hX hE dL_act_125 rfl ⟨by rw [hq], by unfold aMut; rw [if_pos (by rw [hq]; decide)]; exact hS9⟩ (by decide) (by decide)
    · have hE8 : E9 = exL.getD 1 "" := by rw [hE9, hq]; rfl
      subst hE8
      refine VX_ct hX hT 1 21 ⟨70, 78, 126, 78⟩ (by decide) rfl (by decide +kernel) (by decide +kernel) (by decide +kernel) (fun q9 => ?_)
      refine r_astore (L' := [some (.ref f), some (.int (nI 3)), some (.int a), some (.int b), some (.int c), some (.ref q9)]) (pc' := 128) hX dL_act_126 (nlt hnL (by decide)) rfl rfl rfl ?_
      refine r_bipush (pc' := 130) (v := (-3)) hX dL_act_128 rfl rfl ?_
      exact r_ireturn hX hE dL_act_130 rfl ⟨by rw [hq], by unfold aMut; rw [if_pos (by rw [hq]; decide)]; exact hS9⟩ (by decide) (by decide)
    · have hE8 : E9 = exL.getD 3 "" := by rw [hE9, hq]; rfl
      subst hE8
      refine VX_ct hX hT 3 30 ⟨70, 78, 131, 80⟩ (by decide) rfl (by decide +kernel) (by decide +kernel) (by decide +kernel) (fun q9 => ?_)
      refine r_astore (L' := [some (.ref f), some (.int (nI 3)), some (.int a), some (.int b), some (.int c), some (.ref q9)]) (pc' := 133) hX dL_act_131 (nlt hnL (by decide)) rfl rfl rfl ?_
      refine r_bipush (pc' := 135) (v := (-4)) hX dL_act_133 rfl rfl ?_
      exact r_ireturn hX hE dL_act_135 rfl ⟨by rw [hq], by unfold aMut; rw [if_pos (by rw [hq]; decide)]; exact hS9⟩ (by decide) (by decide)

set_option maxRecDepth 20000 in
set_option maxHeartbeats 1000000 in
theorem cA_4 {l : Launch} {D : va_G} {cy : Nat → ClassId} {sa : Nat → Nat} {f K : Nat} {S : AS} {ws : va_W} {a b c : Int32} (hF : FS cy f S ws) (hA : AJ K S) (hst : l.stackTraces = false) : MGW l yL_act cL_act 6 (some .int) [(0, 56, 117, 74), (57, 62, 117, 74), (63, 69, 117, 74), (70, 78, 117, 74), (79, 92, 117, 74), (93, 98, 117, 74), (99, 104, 117, 74), (105, 110, 117, 74), (111, 116, 117, 74), (0, 56, 121, 76), (57, 62, 121, 76), (63, 69, 121, 76), (70, 78, 121, 76), (79, 92, 121, 76), (93, 98, 121, 76), (99, 104, 121, 76), (105, 110, 121, 76), (111, 116, 121, 76), (0, 56, 126, 78), (57, 62, 126, 78), (63, 69, 126, 78), (70, 78, 126, 78), (79, 92, 126, 78), (93, 98, 126, 78), (99, 104, 126, 78), (105, 110, 126, 78), (111, 116, 126, 78), (0, 56, 131, 80), (57, 62, 131, 80), (63, 69, 131, 80), (70, 78, 131, 80), (79, 92, 131, 80), (93, 98, 131, 80), (99, 104, 131, 80), (105, 110, 131, 80), (111, 116, 131, 80), (0, 56, 136, 82), (57, 62, 136, 82), (63, 69, 136, 82), (70, 78, 136, 82), (79, 92, 136, 82), (93, 98, 136, 82), (99, 104, 136, 82), (105, 110, 136, 82), (111, 116, 136, 82)] 9 1 6 (D, cy, sa) [.ref f, .int (nI 4), .int a, .int b, .int c] (ws) (fun w u => w = some (.int (oExam S.1 a).1) ∧ FS cy f (aMut S (oExam S.1 a)) u) := by
  have hv : Wf S.1 := hA.1.1.1.1
  have hq9 : 0 ≤ ((oExam S.1 a).1).toInt ∨ ((oExam S.1 a).1) = -5 ∨ ((oExam S.1 a).1) = -3 := (by
    rcases CO_cases (oExam_co hv) with h9 | ⟨h9, g9⟩ | ⟨h9, g9⟩ | ⟨h9, g9⟩ | ⟨h9, g9⟩ | ⟨h9, g9⟩
    all_goals first | exact absurd rfl g9 | exact Or.inl h9 | exact Or.inr (Or.inl h9) | exact Or.inr (Or.inr (h9)))
  refine MGW_by (own := RL) (L := [some (.ref f), some (.int (nI 4)), some (.int a), some (.int b), some (.int c), none]) (by decide +kernel) rfl rfl (Nat.le_of_ble_eq_true rfl) 1 rfl (fun X hX hE hT hnL hG hcy hl => ?_)
  refine r_iload_n (pc' := 1) hX dL_act_0 rfl rfl ?_
  refine r_tabN (tgt := 79) hX dL_act_1 (by decide) (by decide) (by decide) rfl (by decide) ?_
  refine r_aload_n (pc' := 80) hX dL_act_79 rfl rfl ?_
  refine r_iload_n (pc' := 81) hX dL_act_80 rfl rfl ?_
  refine V_call0X (k' := 1) (n' := 6) (pc' := 84) hX (r_runVX (As := [.int a]) hX dL_act_81 k_L_58 (fun l9 hl9 => by cases hl9; exact cF_inspect (v := S.1) rfl hF hA.1 (hst := (by rw [hl]; exact hst))) hG (FS_recv hF) rfl rfl (Nat.le_of_ble_eq_true rfl) (by decide) (by decide) (by decide) (by decide)) rfl rfl rfl (fun w9 u9 hp9 => ?_) ?_
  · obtain ⟨okq, rfl, hS9⟩ := hp9
    change V X 1 6 (u9) [some (.ref f), some (.int (nI 4)), some (.int a), some (.int b), some (.int c), none] [.int (bI ((oExam S.1 a).1.toInt = 1))] 84
    refine r_if_eq_B (tgt := 91) (pc' := 87) hX dL_act_84 (by decide) rfl (fun c84 => ?_) (fun c84 => ?_)
    · refine r_iconst (pc' := 92) (v := nI 0) hX dL_act_91 rfl rfl ?_
      have hq0 : 0 ≤ ((oExam S.1 a).1).toInt := by
        rcases hq9 with h9 | h9 | h9
        · exact h9
        · exact absurd (show noA ((oExam S.1 a).1) from by rw [h9]; decide) okq
        · exact absurd (show noA ((oExam S.1 a).1) from by rw [h9]; decide) okq
      exact r_ireturn hX hE dL_act_92 rfl ⟨by rw [show (oExam S.1 a).1 = nI 0 from (oExam_01 hq0).resolve_left (fun h9 => c84 (by rw [h9]; rfl))], by unfold aMut; rw [if_neg (by omega)]; exact hS9⟩ (by omega) (by omega)
    · refine r_iconst (pc' := 88) (v := nI 1) hX dL_act_87 rfl rfl ?_
      refine r_goto (tgt := 92) hX dL_act_88 (by decide) ?_
      have hq0 : 0 ≤ ((oExam S.1 a).1).toInt := by
        rcases hq9 with h9 | h9 | h9
        · exact h9
        · exact absurd (show noA ((oExam S.1 a).1) from by rw [h9]; decide) okq
        · exact absurd (show noA ((oExam S.1 a).1) from by rw [h9]; decide) okq
      exact r_ireturn hX hE dL_act_92 rfl ⟨by rw [show (oExam S.1 a).1 = nI 1 from Int32.toInt_inj.mp (by rw [nI_I (by decide)]; exact c84)], by unfold aMut; rw [if_neg (by omega)]; exact hS9⟩ (by omega) (by omega)
  · intro E9 u9 hp9
    obtain ⟨hx9, hE9, hS9⟩ := hp9
    rcases hq9 with hq | hq | hq
    · exact absurd hq (by omega)
    · have hE8 : E9 = exL.getD 4 "" := by rw [hE9, hq]; rfl
      subst hE8
      refine VX_ct hX hT 4 40 ⟨79, 92, 136, 82⟩ (by decide) rfl (by decide +kernel) (by decide +kernel) (by decide +kernel) (fun q9 => ?_)
      refine r_astore (L' := [some (.ref f), some (.int (nI 4)), some (.int a), some (.int b), some (.int c), some (.ref q9)]) (pc' := 138) hX dL_act_136 (nlt hnL (by decide)) rfl rfl rfl ?_
      refine r_bipush (pc' := 140) (v := (-5)) hX dL_act_138 rfl rfl ?_
      exact r_ireturn hX hE dL_act_140 rfl ⟨by rw [hq], by unfold aMut; rw [if_pos (by rw [hq]; decide)]; exact hS9⟩ (by decide) (by decide)
    · have hE8 : E9 = exL.getD 1 "" := by rw [hE9, hq]; rfl
      subst hE8
      refine VX_ct hX hT 1 22 ⟨79, 92, 126, 78⟩ (by decide) rfl (by decide +kernel) (by decide +kernel) (by decide +kernel) (fun q9 => ?_)
      refine r_astore (L' := [some (.ref f), some (.int (nI 4)), some (.int a), some (.int b), some (.int c), some (.ref q9)]) (pc' := 128) hX dL_act_126 (nlt hnL (by decide)) rfl rfl rfl ?_
      refine r_bipush (pc' := 130) (v := (-3)) hX dL_act_128 rfl rfl ?_
      exact r_ireturn hX hE dL_act_130 rfl ⟨by rw [hq], by unfold aMut; rw [if_pos (by rw [hq]; decide)]; exact hS9⟩ (by decide) (by decide)

set_option maxRecDepth 20000 in
set_option maxHeartbeats 1000000 in
theorem cA_5 {l : Launch} {D : va_G} {cy : Nat → ClassId} {sa : Nat → Nat} {f K : Nat} {S : AS} {ws : va_W} {a b c : Int32} (hF : FS cy f S ws) (hA : AJ K S) (hst : l.stackTraces = false) : MGW l yL_act cL_act 6 (some .int) [(0, 56, 117, 74), (57, 62, 117, 74), (63, 69, 117, 74), (70, 78, 117, 74), (79, 92, 117, 74), (93, 98, 117, 74), (99, 104, 117, 74), (105, 110, 117, 74), (111, 116, 117, 74), (0, 56, 121, 76), (57, 62, 121, 76), (63, 69, 121, 76), (70, 78, 121, 76), (79, 92, 121, 76), (93, 98, 121, 76), (99, 104, 121, 76), (105, 110, 121, 76), (111, 116, 121, 76), (0, 56, 126, 78), (57, 62, 126, 78), (63, 69, 126, 78), (70, 78, 126, 78), (79, 92, 126, 78), (93, 98, 126, 78), (99, 104, 126, 78), (105, 110, 126, 78), (111, 116, 126, 78), (0, 56, 131, 80), (57, 62, 131, 80), (63, 69, 131, 80), (70, 78, 131, 80), (79, 92, 131, 80), (93, 98, 131, 80), (99, 104, 131, 80), (105, 110, 131, 80), (111, 116, 131, 80), (0, 56, 136, 82), (57, 62, 136, 82), (63, 69, 136, 82), (70, 78, 136, 82), (79, 92, 136, 82), (93, 98, 136, 82), (99, 104, 136, 82), (105, 110, 136, 82), (111, 116, 136, 82)] 9 1 6 (D, cy, sa) [.ref f, .int (nI 5), .int a, .int b, .int c] (ws) (fun w u => w = some (.int (oMelt S.1 a).1) ∧ FS cy f (aMut S (oMelt S.1 a)) u) := by
  have hv : Wf S.1 := hA.1.1.1.1
  have hq9 : 0 ≤ ((oMelt S.1 a).1).toInt ∨ ((oMelt S.1 a).1) = -5 ∨ ((oMelt S.1 a).1) = -3 := (by
    rcases CO_cases (oMelt_co hv) with h9 | ⟨h9, g9⟩ | ⟨h9, g9⟩ | ⟨h9, g9⟩ | ⟨h9, g9⟩ | ⟨h9, g9⟩
    all_goals first | exact absurd rfl g9 | exact Or.inl h9 | exact Or.inr (Or.inl h9) | exact Or.inr (Or.inr (h9)))
  refine MGW_by (own := RL) (L := [some (.ref f), some (.int (nI 5)), some (.int a), some (.int b), some (.int c), none]) (by decide +kernel) rfl rfl (Nat.le_of_ble_eq_true rfl) 1 rfl (fun X hX hE hT hnL hG hcy hl => ?_)
  refine r_iload_n (pc' := 1) hX dL_act_0 rfl rfl ?_
  refine r_tabN (tgt := 93) hX dL_act_1 (by decide) (by decide) (by decide) rfl (by decide) ?_
  refine r_aload_n (pc' := 94) hX dL_act_93 rfl rfl ?_
  refine r_iload_n (pc' := 95) hX dL_act_94 rfl rfl ?_
  refine V_call0X (k' := 1) (n' := 6) (pc' := 98) hX (r_runVX (As := [.int a]) hX dL_act_95 k_L_62 (fun l9 hl9 => by cases hl9; exact cF_melt (v := S.1) rfl hF hA.1 (hst := (by rw [hl]; exact hst))) hG (FS_recv hF) rfl rfl (Nat.le_of_ble_eq_true rfl) (by decide) (by decide) (by decide) (by decide)) rfl rfl rfl (fun w9 u9 hp9 => ?_) ?_
  · obtain ⟨okq, rfl, hS9⟩ := hp9
    change V X 1 6 (u9) [some (.ref f), some (.int (nI 5)), some (.int a), some (.int b), some (.int c), none] [.int ((oMelt S.1 a).1)] 98
    have hq0 : 0 ≤ ((oMelt S.1 a).1).toInt := by
      rcases hq9 with h9 | h9 | h9
      · exact h9
      · exact absurd (show noA ((oMelt S.1 a).1) from by rw [h9]; decide) okq
      · exact absurd (show noA ((oMelt S.1 a).1) from by rw [h9]; decide) okq
    exact r_ireturn hX hE dL_act_98 rfl ⟨rfl, by unfold aMut; rw [if_neg (by omega)]; exact hS9⟩ (by omega) (by omega)
  · intro E9 u9 hp9
    obtain ⟨hx9, hE9, hS9⟩ := hp9
    rcases hq9 with hq | hq | hq
    · exact absurd hq (by omega)
    · have hE8 : E9 = exL.getD 4 "" := by rw [hE9, hq]; rfl
      subst hE8
      refine VX_ct hX hT 4 41 ⟨93, 98, 136, 82⟩ (by decide) rfl (by decide +kernel) (by decide +kernel) (by decide +kernel) (fun q9 => ?_)
      refine r_astore (L' := [some (.ref f), some (.int (nI 5)), some (.int a), some (.int b), some (.int c), some (.ref q9)]) (pc' := 138) hX dL_act_136 (nlt hnL (by decide)) rfl rfl rfl ?_
      refine r_bipush (pc' := 140) (v := (-5)) hX dL_act_138 rfl rfl ?_
      exact r_ireturn hX hE dL_act_140 rfl ⟨by rw [hq], by unfold aMut; rw [if_pos (by rw [hq]; decide)]; exact hS9⟩ (by decide) (by decide)
    · have hE8 : E9 = exL.getD 1 "" := by rw [hE9, hq]; rfl
      subst hE8
      refine VX_ct hX hT 1 23 ⟨93, 98, 126, 78⟩ (by decide) rfl (by decide +kernel) (by decide +kernel) (by decide +kernel) (fun q9 => ?_)
      refine r_astore (L' := [some (.ref f), some (.int (nI 5)), some (.int a), some (.int b), some (.int c), some (.ref q9)]) (pc' := 128) hX dL_act_126 (nlt hnL (by decide)) rfl rfl rfl ?_
      refine r_bipush (pc' := 130) (v := (-3)) hX dL_act_128 rfl rfl ?_
      exact r_ireturn hX hE dL_act_130 rfl ⟨by rw [hq], by unfold aMut; rw [if_pos (by rw [hq]; decide)]; exact hS9⟩ (by decide) (by decide)

set_option maxRecDepth 20000 in
set_option maxHeartbeats 1000000 in
theorem cA_6 {l : Launch} {D : va_G} {cy : Nat → ClassId} {sa : Nat → Nat} {f K : Nat} {S : AS} {ws : va_W} {a b c : Int32} (hF : FS cy f S ws) (hA : AJ K S) (hst : l.stackTraces = false) : MGW l yL_act cL_act 6 (some .int) [(0, 56, 117, 74), (57, 62, 117, 74), (63, 69, 117, 74), (70, 78, 117, 74), (79, 92, 117, 74), (93, 98, 117, 74), (99, 104, 117, 74), (105, 110, 117, 74), (111, 116, 117, 74), (0, 56, 121, 76), (57, 62, 121, 76), (63, 69, 121, 76), (70, 78, 121, 76), (79, 92, 121, 76), (93, 98, 121, 76), (99, 104, 121, 76), (105, 110, 121, 76), (111, 116, 121, 76), (0, 56, 126, 78), (57, 62, 126, 78), (63, 69, 126, 78), (70, 78, 126, 78), (79, 92, 126, 78), (93, 98, 126, 78), (99, 104, 126, 78), (105, 110, 126, 78), (111, 116, 126, 78), (0, 56, 131, 80), (57, 62, 131, 80), (63, 69, 131, 80), (70, 78, 131, 80), (79, 92, 131, 80), (93, 98, 131, 80), (99, 104, 131, 80), (105, 110, 131, 80), (111, 116, 131, 80), (0, 56, 136, 82), (57, 62, 136, 82), (63, 69, 136, 82), (70, 78, 136, 82), (79, 92, 136, 82), (93, 98, 136, 82), (99, 104, 136, 82), (105, 110, 136, 82), (111, 116, 136, 82)] 9 1 6 (D, cy, sa) [.ref f, .int (nI 6), .int a, .int b, .int c] (ws) (fun w u => w = some (.int (oReset S.1 a).1) ∧ FS cy f (aMut S (oReset S.1 a)) u) := by
  have hv : Wf S.1 := hA.1.1.1.1
  have hq9 : 0 ≤ ((oReset S.1 a).1).toInt ∨ ((oReset S.1 a).1) = -1 := (by
    rcases CO_cases (oReset_co hv) with h9 | ⟨h9, g9⟩ | ⟨h9, g9⟩ | ⟨h9, g9⟩ | ⟨h9, g9⟩ | ⟨h9, g9⟩
    all_goals first | exact absurd rfl g9 | exact Or.inl h9 | exact Or.inr h9)
  refine MGW_by (own := RL) (L := [some (.ref f), some (.int (nI 6)), some (.int a), some (.int b), some (.int c), none]) (by decide +kernel) rfl rfl (Nat.le_of_ble_eq_true rfl) 1 rfl (fun X hX hE hT hnL hG hcy hl => ?_)
  refine r_iload_n (pc' := 1) hX dL_act_0 rfl rfl ?_
  refine r_tabN (tgt := 99) hX dL_act_1 (by decide) (by decide) (by decide) rfl (by decide) ?_
  refine r_aload_n (pc' := 100) hX dL_act_99 rfl rfl ?_
  refine r_iload_n (pc' := 101) hX dL_act_100 rfl rfl ?_
  refine V_call0X (k' := 1) (n' := 6) (pc' := 104) hX (r_runVX (As := [.int a]) hX dL_act_101 k_L_65 (fun l9 hl9 => by cases hl9; exact cF_renewMould (v := S.1) rfl hF hA.1 (hst := (by rw [hl]; exact hst))) hG (FS_recv hF) rfl rfl (Nat.le_of_ble_eq_true rfl) (by decide) (by decide) (by decide) (by decide)) rfl rfl rfl (fun w9 u9 hp9 => ?_) ?_
  · obtain ⟨okq, rfl, hS9⟩ := hp9
    change V X 1 6 (u9) [some (.ref f), some (.int (nI 6)), some (.int a), some (.int b), some (.int c), none] [.int ((oReset S.1 a).1)] 104
    have hq0 : 0 ≤ ((oReset S.1 a).1).toInt := by
      rcases hq9 with h9 | h9
      · exact h9
      · exact absurd (show noA ((oReset S.1 a).1) from by rw [h9]; decide) okq
    exact r_ireturn hX hE dL_act_104 rfl ⟨rfl, by unfold aMut; rw [if_neg (by omega)]; exact hS9⟩ (by omega) (by omega)
  · intro E9 u9 hp9
    obtain ⟨hx9, hE9, hS9⟩ := hp9
    rcases hq9 with hq | hq
    · exact absurd hq (by omega)
    · have hE8 : E9 = exL.getD 2 "" := by rw [hE9, hq]; rfl
      subst hE8
      refine VX_ct hX hT 2 6 ⟨99, 104, 117, 74⟩ (by decide) rfl (by decide +kernel) (by decide +kernel) (by decide +kernel) (fun q9 => ?_)
      refine r_astore (L' := [some (.ref f), some (.int (nI 6)), some (.int a), some (.int b), some (.int c), some (.ref q9)]) (pc' := 119) hX dL_act_117 (nlt hnL (by decide)) rfl rfl rfl ?_
      refine r_iconst (pc' := 120) (v := (-1)) hX dL_act_119 rfl rfl ?_
      exact r_ireturn hX hE dL_act_120 rfl ⟨by rw [hq], by unfold aMut; rw [if_pos (by rw [hq]; decide)]; exact hS9⟩ (by decide) (by decide)

set_option maxRecDepth 20000 in
set_option maxHeartbeats 1000000 in
theorem cA_7 {l : Launch} {D : va_G} {cy : Nat → ClassId} {sa : Nat → Nat} {f K : Nat} {S : AS} {ws : va_W} {a b c : Int32} (hF : FS cy f S ws) (hA : AJ K S) (hst : l.stackTraces = false) : MGW l yL_act cL_act 6 (some .int) [(0, 56, 117, 74), (57, 62, 117, 74), (63, 69, 117, 74), (70, 78, 117, 74), (79, 92, 117, 74), (93, 98, 117, 74), (99, 104, 117, 74), (105, 110, 117, 74), (111, 116, 117, 74), (0, 56, 121, 76), (57, 62, 121, 76), (63, 69, 121, 76), (70, 78, 121, 76), (79, 92, 121, 76), (93, 98, 121, 76), (99, 104, 121, 76), (105, 110, 121, 76), (111, 116, 121, 76), (0, 56, 126, 78), (57, 62, 126, 78), (63, 69, 126, 78), (70, 78, 126, 78), (79, 92, 126, 78), (93, 98, 126, 78), (99, 104, 126, 78), (105, 110, 126, 78), (111, 116, 126, 78), (0, 56, 131, 80), (57, 62, 131, 80), (63, 69, 131, 80), (70, 78, 131, 80), (79, 92, 131, 80), (93, 98, 131, 80), (99, 104, 131, 80), (105, 110, 131, 80), (111, 116, 131, 80), (0, 56, 136, 82), (57, 62, 136, 82), (63, 69, 136, 82), (70, 78, 136, 82), (79, 92, 136, 82), (93, 98, 136, 82), (99, 104, 136, 82), (105, 110, 136, 82), (111, 116, 136, 82)] 9 1 6 (D, cy, sa) [.ref f, .int (nI 7), .int a, .int b, .int c] (ws) (fun w u => w = some (.int (oTol S.1 a).1) ∧ FS cy f (aMut S (oTol S.1 a)) u) := by
  have hv : Wf S.1 := hA.1.1.1.1
  have hq9 : 0 ≤ ((oTol S.1 a).1).toInt ∨ ((oTol S.1 a).1) = -2 := (by
    rcases CO_cases (oTol_co hv) with h9 | ⟨h9, g9⟩ | ⟨h9, g9⟩ | ⟨h9, g9⟩ | ⟨h9, g9⟩ | ⟨h9, g9⟩
    all_goals first | exact absurd rfl g9 | exact Or.inl h9 | exact Or.inr h9)
  refine MGW_by (own := RL) (L := [some (.ref f), some (.int (nI 7)), some (.int a), some (.int b), some (.int c), none]) (by decide +kernel) rfl rfl (Nat.le_of_ble_eq_true rfl) 1 rfl (fun X hX hE hT hnL hG hcy hl => ?_)
  refine r_iload_n (pc' := 1) hX dL_act_0 rfl rfl ?_
  refine r_tabN (tgt := 105) hX dL_act_1 (by decide) (by decide) (by decide) rfl (by decide) ?_
  refine r_aload_n (pc' := 106) hX dL_act_105 rfl rfl ?_
  refine r_iload_n (pc' := 107) hX dL_act_106 rfl rfl ?_
  refine V_call0X (k' := 1) (n' := 6) (pc' := 110) hX (r_runVX (As := [.int a]) hX dL_act_107 k_L_68 (fun l9 hl9 => by cases hl9; exact cF_setTolerance (v := S.1) rfl hF hA.1 (hst := (by rw [hl]; exact hst))) hG (FS_recv hF) rfl rfl (Nat.le_of_ble_eq_true rfl) (by decide) (by decide) (by decide) (by decide)) rfl rfl rfl (fun w9 u9 hp9 => ?_) ?_
  · obtain ⟨okq, rfl, hS9⟩ := hp9
    change V X 1 6 (u9) [some (.ref f), some (.int (nI 7)), some (.int a), some (.int b), some (.int c), none] [.int ((oTol S.1 a).1)] 110
    have hq0 : 0 ≤ ((oTol S.1 a).1).toInt := by
      rcases hq9 with h9 | h9
      · exact h9
      · exact absurd (show noA ((oTol S.1 a).1) from by rw [h9]; decide) okq
    exact r_ireturn hX hE dL_act_110 rfl ⟨rfl, by unfold aMut; rw [if_neg (by omega)]; exact hS9⟩ (by omega) (by omega)
  · intro E9 u9 hp9
    obtain ⟨hx9, hE9, hS9⟩ := hp9
    rcases hq9 with hq | hq
    · exact absurd hq (by omega)
    · have hE8 : E9 = exL.getD 0 "" := by rw [hE9, hq]; rfl
      subst hE8
      refine VX_ct hX hT 0 16 ⟨105, 110, 121, 76⟩ (by decide) rfl (by decide +kernel) (by decide +kernel) (by decide +kernel) (fun q9 => ?_)
      refine r_astore (L' := [some (.ref f), some (.int (nI 7)), some (.int a), some (.int b), some (.int c), some (.ref q9)]) (pc' := 123) hX dL_act_121 (nlt hnL (by decide)) rfl rfl rfl ?_
      refine r_bipush (pc' := 125) (v := (-2)) hX dL_act_123 rfl rfl ?_
      exact r_ireturn hX hE dL_act_125 rfl ⟨by rw [hq], by unfold aMut; rw [if_pos (by rw [hq]; decide)]; exact hS9⟩ (by decide) (by decide)

set_option maxRecDepth 20000 in
set_option maxHeartbeats 1000000 in
theorem cA_8 {l : Launch} {D : va_G} {cy : Nat → ClassId} {sa : Nat → Nat} {f K : Nat} {S : AS} {ws : va_W} {a b c : Int32} (hF : FS cy f S ws) (hA : AJ K S) (hst : l.stackTraces = false) : MGW l yL_act cL_act 6 (some .int) [(0, 56, 117, 74), (57, 62, 117, 74), (63, 69, 117, 74), (70, 78, 117, 74), (79, 92, 117, 74), (93, 98, 117, 74), (99, 104, 117, 74), (105, 110, 117, 74), (111, 116, 117, 74), (0, 56, 121, 76), (57, 62, 121, 76), (63, 69, 121, 76), (70, 78, 121, 76), (79, 92, 121, 76), (93, 98, 121, 76), (99, 104, 121, 76), (105, 110, 121, 76), (111, 116, 121, 76), (0, 56, 126, 78), (57, 62, 126, 78), (63, 69, 126, 78), (70, 78, 126, 78), (79, 92, 126, 78), (93, 98, 126, 78), (99, 104, 126, 78), (105, 110, 126, 78), (111, 116, 126, 78), (0, 56, 131, 80), (57, 62, 131, 80), (63, 69, 131, 80), (70, 78, 131, 80), (79, 92, 131, 80), (93, 98, 131, 80), (99, 104, 131, 80), (105, 110, 131, 80), (111, 116, 131, 80), (0, 56, 136, 82), (57, 62, 136, 82), (63, 69, 136, 82), (70, 78, 136, 82), (79, 92, 136, 82), (93, 98, 136, 82), (99, 104, 136, 82), (105, 110, 136, 82), (111, 116, 136, 82)] 9 1 6 (D, cy, sa) [.ref f, .int (nI 8), .int a, .int b, .int c] (ws) (fun w u => w = some (.int (oStep S.1 a).1) ∧ FS cy f (aMut S (oStep S.1 a)) u) := by
  have hv : Wf S.1 := hA.1.1.1.1
  have hq9 : 0 ≤ ((oStep S.1 a).1).toInt ∨ ((oStep S.1 a).1) = -2 := (by
    rcases CO_cases (oStep_co hv) with h9 | ⟨h9, g9⟩ | ⟨h9, g9⟩ | ⟨h9, g9⟩ | ⟨h9, g9⟩ | ⟨h9, g9⟩
    all_goals first | exact absurd rfl g9 | exact Or.inl h9 | exact Or.inr h9)
  refine MGW_by (own := RL) (L := [some (.ref f), some (.int (nI 8)), some (.int a), some (.int b), some (.int c), none]) (by decide +kernel) rfl rfl (Nat.le_of_ble_eq_true rfl) 1 rfl (fun X hX hE hT hnL hG hcy hl => ?_)
  refine r_iload_n (pc' := 1) hX dL_act_0 rfl rfl ?_
  refine r_tabO (tgt := 111) hX dL_act_1 (by first | exact Or.inl (by decide) | exact Or.inr (Or.inl (by decide))) (by decide) ?_
  refine r_aload_n (pc' := 112) hX dL_act_111 rfl rfl ?_
  refine r_iload_n (pc' := 113) hX dL_act_112 rfl rfl ?_
  refine V_call0X (k' := 1) (n' := 6) (pc' := 116) hX (r_runVX (As := [.int a]) hX dL_act_113 k_L_71 (fun l9 hl9 => by cases hl9; exact cF_setStep (v := S.1) rfl hF hA.1 (hst := (by rw [hl]; exact hst))) hG (FS_recv hF) rfl rfl (Nat.le_of_ble_eq_true rfl) (by decide) (by decide) (by decide) (by decide)) rfl rfl rfl (fun w9 u9 hp9 => ?_) ?_
  · obtain ⟨okq, rfl, hS9⟩ := hp9
    change V X 1 6 (u9) [some (.ref f), some (.int (nI 8)), some (.int a), some (.int b), some (.int c), none] [.int ((oStep S.1 a).1)] 116
    have hq0 : 0 ≤ ((oStep S.1 a).1).toInt := by
      rcases hq9 with h9 | h9
      · exact h9
      · exact absurd (show noA ((oStep S.1 a).1) from by rw [h9]; decide) okq
    exact r_ireturn hX hE dL_act_116 rfl ⟨rfl, by unfold aMut; rw [if_neg (by omega)]; exact hS9⟩ (by omega) (by omega)
  · intro E9 u9 hp9
    obtain ⟨hx9, hE9, hS9⟩ := hp9
    rcases hq9 with hq | hq
    · exact absurd hq (by omega)
    · have hE8 : E9 = exL.getD 0 "" := by rw [hE9, hq]; rfl
      subst hE8
      refine VX_ct hX hT 0 17 ⟨111, 116, 121, 76⟩ (by decide) rfl (by decide +kernel) (by decide +kernel) (by decide +kernel) (fun q9 => ?_)
      refine r_astore (L' := [some (.ref f), some (.int (nI 8)), some (.int a), some (.int b), some (.int c), some (.ref q9)]) (pc' := 123) hX dL_act_121 (nlt hnL (by decide)) rfl rfl rfl ?_
      refine r_bipush (pc' := 125) (v := (-2)) hX dL_act_123 rfl rfl ?_
      exact r_ireturn hX hE dL_act_125 rfl ⟨by rw [hq], by unfold aMut; rw [if_pos (by rw [hq]; decide)]; exact hS9⟩ (by decide) (by decide)

set_option maxRecDepth 20000 in
set_option maxHeartbeats 1000000 in
theorem cW_runs {l : Launch} {D : va_G} {cy : Nat → ClassId} {sa : Nat → Nat} {f K : Nat} {S : AS} {ws : va_W} (hF : FS cy f S ws) (hA : AJ K S) (hK : K + 61 ≤ 100000) (hst : l.stackTraces = false) : MGW l yL_runs cL_runs 2 (some .int) [(0, 4, 5, 76), (0, 4, 8, 78)] 10 2 156 (D, cy, sa) [.ref f] (ws) (fun w u => w = some (.int (rnR (qRun S))) ∧ FS cy f (aRun S) u) := by
  have hq9 : 0 ≤ (qRun S).toInt ∨ qRun S = -2 ∨ qRun S = -3 := qRun_q
  refine MGW_by (own := RL) (L := [some (.ref f), none]) (by decide +kernel) rfl rfl (Nat.le_of_ble_eq_true rfl) 1 rfl (fun X hX hE hT hnL hG hcy hl => ?_)
  refine r_aload_n (pc' := 1) hX dL_runs_0 rfl rfl ?_
  refine V_call0X (k' := 2) (n' := 156) (pc' := 4) hX (r_runVX (As := []) hX dL_runs_1 k_L_150 (fun l9 hl9 => by cases hl9; exact cF_runScript (v := S.1) rfl hF hA.1 (hst := (by rw [hl]; exact hst)) (hK := hK)) hG (FS_recv hF) rfl rfl (Nat.le_of_ble_eq_true rfl) (by decide) (by decide) (by decide) (by decide)) rfl rfl rfl (fun w9 u9 hp9 => ?_) ?_
  · obtain ⟨okq, rfl, hS9⟩ := hp9
    change V X 2 156 (u9) [some (.ref f), none] [.int (qRun S)] 4
    have hq8 : ¬ qRun S = -2 ∧ ¬ qRun S = -3 := by
      rcases hq9 with h9 | h9 | h9
      · exact ⟨fun h8 => by rw [h8] at h9; exact absurd h9 (by decide), fun h8 => by rw [h8] at h9; exact absurd h9 (by decide)⟩
      · exact absurd (show noA (qRun S) from by rw [h9]; decide) okq
      · exact absurd (show noA (qRun S) from by rw [h9]; decide) okq
    exact r_ireturn hX hE dL_runs_4 rfl ⟨by unfold rnR; rw [if_neg hq8.1, if_neg hq8.2], hS9⟩ (by omega) (by omega)
  · intro E9 u9 hp9
    obtain ⟨hx9, hE9, hS9⟩ := hp9
    rcases hq9 with hq | hq | hq
    · exact absurd hq (by omega)
    · have hE8 : E9 = exL.getD 0 "" := by rw [hE9, hq]; rfl
      subst hE8
      refine VX_ct hX hT 0 0 ⟨0, 4, 5, 76⟩ (by decide) rfl (by decide +kernel) (by decide +kernel) (by decide +kernel) (fun q9 => ?_)
      refine r_astore_n (L' := [some (.ref f), some (.ref q9)]) (pc' := 6) hX dL_runs_5 (nlt hnL (by decide)) rfl rfl rfl ?_
      refine r_iconst (pc' := 7) (v := (-1)) hX dL_runs_6 rfl rfl ?_
      exact r_ireturn hX hE dL_runs_7 rfl ⟨by rw [hq]; rfl, hS9⟩ (by decide) (by decide)
    · have hE8 : E9 = exL.getD 1 "" := by rw [hE9, hq]; rfl
      subst hE8
      refine VX_ct hX hT 1 1 ⟨0, 4, 8, 78⟩ (by decide) rfl (by decide +kernel) (by decide +kernel) (by decide +kernel) (fun q9 => ?_)
      refine r_astore_n (L' := [some (.ref f), some (.ref q9)]) (pc' := 9) hX dL_runs_8 (nlt hnL (by decide)) rfl rfl rfl ?_
      refine r_bipush (pc' := 11) (v := (-2)) hX dL_runs_9 rfl rfl ?_
      exact r_ireturn hX hE dL_runs_11 rfl ⟨by rw [hq]; rfl, hS9⟩ (by decide) (by decide)
