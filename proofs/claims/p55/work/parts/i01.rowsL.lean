abbrev wW (y : MethodName) (cc : ByteArray) (maxL : Nat) (ret : Option FieldType) (hh : List (Nat × Nat × Nat × Nat)) : List Cond := .codeWith y cc maxL ret hh :: T0
/-- a contract of a method that has a table, and returns -/
def MGW (l : Launch) (y : MethodName) (cc : ByteArray) (maxL : Nat) (ret : Option FieldType) (hh : List (Nat × Nat × Nat × Nat)) (d mc ms : Nat) (G : xG) (av : List Value) (ws : va_W) (P : Option Value → va_W → Prop) : Prop :=
  ∀ sz : Nat, Met l y (wW y cc maxL ret hh) (rmD d mc ms) (va_Pc av (PreW G ws sz)) (QG G ws sz P) mc ms (va_A ws sz)
/-- the table of the running method -/
def Tab (X : xC) (hh : List (Nat × Nat × Nat × Nat)) : Prop := match X with
  | (_, _, _, _, _, _, _, _, _, c, _, _, _, _) => c.exceptionTable.toList = tableOf hh
theorem Met_ofWW {l : Launch} {y : MethodName} {ws ws' : List Cond} {rm : Room} {Pc : Array Value → State → Prop} {Qc : Array Value → State → Outcome → State → Prop} {mc ms : Nat} {free : Addr → Prop} {cc : ByteArray} {maxL : Nat} {ret : Option FieldType} {hh : List (Nat × Nat × Nat × Nat)}
    (hy : plainName y.cls = true) (hw : ws = Cond.codeWith y cc maxL ret hh :: ws')
    (body : ∀ p e s m args below meth c s₁, BodyLoose p l y (headSpec ws rm) cc maxL ret e s m args below meth c s₁ → c.maxLocals = maxL → Pc args s →
      W p l e (headSpec ws rm).room s m args below meth c s.heap [] 0 0 (MQ below Qc args s mc ms free) (entryFrame m args maxL)) : Met l y ws rm Pc Qc mc ms free := by
  refine MetFree.of_bodyS (code := cc) (maxLocals := maxL) (ret := ret) hy ?_ ?_
  · intro args s m h hn
    obtain ⟨m9, meth, c, hn9, h1, h2, h3, h4, -, h5, h6, -⟩ := Cond.codeWith_spec (atoms_spec (ws := ws) h _ (by rw [hw]; exact List.mem_cons_self))
    cases hn.symm.trans hn9
    exact ⟨meth, c, h1, h2, h3, h4, h5, h6⟩
  · intro p e s m args below meth c s₁ B hml hP _
    have hh0 : s₁.heap = s.heap := by rw [B.state]; rfl
    obtain ⟨t, a1, o, b1, b2, b3⟩ := body p e s m args below meth c s₁ B hml hP s₁ hh0 (Stand.of_body B)
    exact ⟨t, o, a1, b1, b2, b3⟩
theorem MGW_of {l : Launch} {y : MethodName} {cc : ByteArray} {maxL : Nat} {ret : Option FieldType} {hh : List (Nat × Nat × Nat × Nat)} {d mc ms : Nat} {G : xG} {av : List Value} {ws : va_W} {P : Option Value → va_W → Prop} {own : String} (hpl : plainName y.cls = true) (ho : y.cls = own) (hc : ∀ v ∈ av, v.category = 1) (hn : av.length ≤ maxL)
    {L : List (Option Value)} (hL : ∀ (i : Nat) (v : Value), L[i]? = some (some v) → av[i]? = some v)
    (body : ∀ X : xC, Ok SF X cc own d mc ms → Ends X ret mc ms ws P → Tab X hh → c0_nL X = maxL → c0_G X = G → c0_l X = l → V X 0 0 ws L [] 0) : MGW l y cc maxL ret hh d mc ms G av ws P := by
  intro sz
  refine Met_ofWW (cc := cc) (maxL := maxL) (ret := ret) (hh := hh) hpl rfl ?_
  intro p e s m args below meth c s₁ B hml hv
  obtain ⟨rfl, hsz, hP, hK, hD, hF, hNw⟩ := hv
  subst hsz
  have hts := atoms_spec (ws := wW y cc maxL ret hh) B.pre
  have hown : s.vm.findClass own = some m.cls := by rw [← ho]; exact findClass_of_methodNamed B.named
  have h := body (p, l, e, rmD d mc ms, s, m, av.toArray, below, meth, c, maxL, G, va_A ws s.heap.size, MQ below (QG G ws s.heap.size P) av.toArray s mc ms (va_A ws s.heap.size))
    ⟨B.exec, B.bytes, hown, fun w hw => hts w (List.mem_cons_of_mem _ hw), hK, fun q h => Or.inr h, B.notSynchronized, hml, ⟨Nat.le_refl _, Nat.le_refl _, Nat.le_refl _, Nat.le_refl _⟩, hF, hNw⟩ ⟨B.returns, rfl, fun _ _ _ _ _ h => h⟩ (vx_table (x := y) B (hts _ List.mem_cons_self)) rfl rfl rfl
  rw [lg_entry_eq]
  exact h s.heap [] _ hP hD.self va_S.rf (lo_entry av maxL hc hn hL)
theorem MGW_by {l : Launch} {y : MethodName} {cc : ByteArray} {maxL : Nat} {ret : Option FieldType} {hh : List (Nat × Nat × Nat × Nat)} {d mc ms : Nat} {D : va_G} {cy : Nat → ClassId} {sa : Nat → Nat} {av : List Value} {ws : va_W} {P : Option Value → va_W → Prop} {own : String} {L : List (Option Value)} (hpl : plainName y.cls = true) (ho : y.cls = own) (hc : (av.all fun v => v.category == 1) = true) (hn : av.length ≤ maxL) (z : Nat) (hL : av.map some ++ List.replicate z none = L)
    (body : ∀ X : xC, Ok SF X cc own d mc ms → Ends X ret mc ms ws P → Tab X hh → c0_nL X = maxL → c0_G X = (D, cy, sa) → c0_cy X = cy → c0_l X = l → V X 0 0 ws L [] 0) : MGW l y cc maxL ret hh d mc ms (D, cy, sa) av ws P := by
  subst hL
  refine MGW_of hpl ho (fun v hv => by simpa using List.all_eq_true.mp hc v hv) hn ?_ (fun X h1 h2 h3 h4 h5 h6 => body X h1 h2 h3 h4 h5 (by show (c0_G X).2.1 = cy; rw [h5]) h6)
  intro i v h
  by_cases q : i < av.length
  · rw [List.getElem?_append_left (by simpa using q), List.getElem?_map] at h
    cases hq : av[i]? with
    | none => rw [hq] at h; cases h
    | some w => rw [hq] at h; cases h; rfl
  · rw [List.getElem?_append_right (by simpa using q), List.getElem?_replicate] at h
    split at h <;> cases h
section VTAB2
variable {X : xC} {cc : ByteArray} {own : String} {d mc ms : Nat} {k n : Nat} {ws wc : va_W} {L : List (Option Value)} {st st0 rest : List Value} {pc pc' : Nat} {P : Option Value → va_W → Prop}
/-- an exception of the class that a row of the table names, past rows that name others -/
theorem VX_catch {hh : List (Nat × Nat × Nat × Nat)} {E : String} (hX : Ok SF X cc own d mc ms) (hT : Tab X hh) (pre : List ExceptionTableEntry) (x : ExceptionTableEntry) (suf : List ExceptionTableEntry) (hsplit : tableOf hh = pre ++ x :: suf)
    (hpass : ∀ z ∈ pre, covers z pc = false ∨ z.catchType ≠ 0 ∧ ∃ nm : String, Cond.classLink own z.catchType nm ∈ T0 ∧ ∃ i j, i < 6 ∧ j < 5 ∧ i ≠ j ∧ exL.getD i "" = E ∧ exL.getD j "" = nm) (hx0 : covers x pc = true) (h0 : x.catchType ≠ 0) (hlink : Cond.classLink own x.catchType E ∈ T0) (hcast : Cond.castable E E ∈ N0 ∧ (Cond.castable E E).onTables = true)
    (h : ∀ q : Nat, V X k n ws L [.ref q] x.handlerPc) : VX X k n ws L rest pc E := by
  obtain ⟨p, l, e, R, s, m, args, below, meth, c, nL, G, A, Q⟩ := X
  obtain ⟨hx, hb, hown, hts, hK, hA, hlk, hml, hR, hsf, hNw⟩ := hX
  intro H locs ls q9 ce hP hD hS hl hce hcv hcl
  exact vx_catch hown pre x suf (hT.trans hsplit) (fun z hz => by
    rcases hpass z hz with h0 | ⟨h1, nm, h2, i, j, hi, hj, hij, e1, e2⟩
    · exact Or.inl h0
    refine Or.inr ⟨h1, nm, hts _ h2, ?_⟩
    rw [← e1, ← e2]
    exact hsf.2.2.2.2.2.2.2.2.2.2.1 i j hi hj hij) hx0 h0 (hts _ hlink) (va_Nw.use hcast.2 (hNw _ hcast.1)) hce hcv hcl (h q9 H locs ls hP hD hS hl)
theorem r_dcmp {x y : UInt64} {op : CmpOp} (hX : Ok SF X cc own d mc ms) (hd : decode cc pc = .ok (.dcmp op, 1)) (hp : pc + 1 = pc') (h : V X k n ws L (.int (Op.cmpValue (FP.dcmp x y) op) :: st) pc') : V X k n ws L (.double y :: .double x :: st) pc := by
  obtain ⟨p, l, e, R, s, m, args, below, meth, c, nL, G, A, Q⟩ := X
  obtain ⟨hx, hb, hown, hts, hK, hA, hlk, hml, hR, hsf, hNw⟩ := hX
  subst hp
  intro H locs ls hP hD hS hl
  exact lv_dcmp hx hb hd (h H locs ls hP hD hS hl)
theorem r_f2d {x : UInt32} (hX : Ok SF X cc own d mc ms) (hd : decode cc pc = .ok (.f2d, 1)) (hne : vf_n64 (FP.f2d x)) (hp : pc + 1 = pc') (h : V X k n ws L (.double (FP.f2d x) :: st) pc') : V X k n ws L (.float x :: st) pc := by
  obtain ⟨p, l, e, R, s, m, args, below, meth, c, nL, G, A, Q⟩ := X
  obtain ⟨hx, hb, hown, hts, hK, hA, hlk, hml, hR, hsf, hNw⟩ := hX
  subst hp
  intro H locs ls hP hD hS hl
  exact lv_f2d hx hb hd hne (h H locs ls hP hD hS hl)
end VTAB2
section VLCMP
variable {p : Program} {l : Launch} {e : Env} {R : Room} {s : State} {m : MethodId} {args : Array Value} {below : List Frame} {meth : Method} {c : Code} {H : Heap} {locs : List Loc} {cells slots : Nat} {Q : State → Prop} {cc : ByteArray} {pc : Nat} {ls : Array Slot} {rest : List Value}
theorem lv_lcmp0 (hexec : p.tables.exec = Jvm.exec) (hb : c.code = cc) {x : Int64} (hdg : decode cc pc = .ok (.lcmp, 1))
    (k : W p l e R s m args below meth c H locs cells slots Q (F0 m (pc + 1) ls (.int 0 :: rest))) : W p l e R s m args below meth c H locs cells slots Q (F0 m pc ls (.long x :: .long x :: rest)) := by
  intro T hT X
  obtain ⟨t, a, b⟩ := k T hT X
  refine ⟨t, ?_, b⟩
  have hxx : ¬ x > x := Int64.lt_irrefl
  jvm_step X.here [X.here.top, hexec, hb, hdg, hxx]
  exact a
end VLCMP
section VLCMP2
variable {X : xC} {cc : ByteArray} {own : String} {d mc ms : Nat} {k n : Nat} {ws : va_W} {L : List (Option Value)} {st : List Value} {pc pc' : Nat}
theorem r_lcmp0 {x : Int64} (hX : Ok SF X cc own d mc ms) (hd : decode cc pc = .ok (.lcmp, 1)) (hp : pc + 1 = pc') (h : V X k n ws L (.int (nI 0) :: st) pc') : V X k n ws L (.long x :: .long x :: st) pc := by
  obtain ⟨p, l, e, R, s, m, args, below, meth, c, nL, G, A, Q⟩ := X
  obtain ⟨hx, hb, hown, hts, hK, hA, hlk, hml, hR, hsf, hNw⟩ := hX
  subst hp
  intro H locs ls hP hD hS hl
  exact lv_lcmp0 hx hb hd (h H locs ls hP hD hS hl)
/-- a static method that has a table -/
def KSW (own : String) (index : Nat) (y : MethodName) (cc : ByteArray) (maxL : Nat) (ret : Option FieldType) (hh : List (Nat × Nat × Nat × Nat)) (na : Nat) : Prop := GoodIn T0 (va_wsS own index y (wW y cc maxL ret hh)) ∧ y.cls ≠ "java/lang/invoke/MethodHandle" ∧ y.cls ≠ "java/lang/invoke/VarHandle" ∧ (parseMethodDescriptor y.desc).map (fun d => d.parameters.length) = some na
theorem KSW_of {own : String} {index : Nat} {y : MethodName} {cc : ByteArray} {maxL : Nat} {ret : Option FieldType} {hh : List (Nat × Nat × Nat × Nat)} {na : Nat} (h1 : Cond.methodLink own index y ∈ T0) (h2 : Cond.static y ∈ T0) (h4 : Cond.initialized y.cls ∈ T0) (h5 : Cond.codeWith y cc maxL ret hh ∈ T0) (h6 : y.cls ≠ "java/lang/invoke/MethodHandle" ∧ y.cls ≠ "java/lang/invoke/VarHandle" ∧ (parseMethodDescriptor y.desc).map (fun d => d.parameters.length) = some na) : KSW own index y cc maxL ret hh na :=
  ⟨gT0 (fun w hw => by
    rcases List.mem_append.mp hw with h | h
    · simp only [List.mem_cons, List.not_mem_nil, or_false] at h
      rcases h with rfl | rfl | rfl <;> assumption
    · rcases List.mem_cons.mp h with rfl | h
      · exact h5
      · exact h), h6⟩
theorem r_runSW {wc : va_W} {P : Option Value → va_W → Prop} {st0 rest : List Value} {index na maxL d9 mc' ms' : Nat} {y : MethodName} {cb : ByteArray} {ret : Option FieldType} {hh : List (Nat × Nat × Nat × Nat)} {As : List Value} {G : xG} (hX : Ok SF X cc own d mc ms) (hd : decode cc pc = .ok (.invokestatic index, 3)) (hKk : KSW own index y cb maxL ret hh na) (hM : ∀ l, c0_l X = l → MGW l y cb maxL ret hh d9 mc' ms' G As wc P) (hG9 : c0_G X = G) (hna : As.length = na) (hst : st0 = As.reverse ++ rest) (hrm : (rest.map fun v => v.category).sum ≤ 8) (hd9 : d9 < d) (hmL : maxL ≤ 21) (hk9 : k + mc' ≤ mc) (hn9 : n + ms' ≤ ms) : Run1 X mc' ms' (c0_G X) wc As P st0 rest L k n pc := by
  subst hst
  have hM := hM _ rfl
  obtain ⟨p, l, e, R, s, m, args, below, meth, c, nL, G, A, Q⟩ := X
  obtain ⟨hx, hb, hown, hts, hK, hA, hlk, hml, hR, hsf, hNw⟩ := hX
  cases hG9
  obtain ⟨hG, hy⟩ := hKk
  intro H locs ls hS hP hD hF hl
  have hts0 : ∀ w ∈ T0, w.before args s = true := hts
  exact vx_runSW (cc := cc) (nL := nL) (As := As) (rest := rest) ⟨hx, hb, hml, hown, hts0⟩ (hM H.size) (vx_cwSW na hts0 hG rfl rfl rfl hy ⟨by show d9 + 1 ≤ R.frames; omega, by show 8 + (maxL + 11) + 40 * d9 ≤ R.locals; omega⟩) ⟨PreW_blind, fun U hU hW => ⟨rfl, by rw [hU], by rw [hU]; exact hP, va_K.moved hW.alike hK, hD, hsf.go hS hU hW hF, N0_warm hW hNw⟩⟩ rfl hna hl.1 rfl (lv_room hrm) hd ⟨Nat.le_trans hk9 hR.2.2.1, Nat.le_trans hn9 hR.2.2.2⟩
end VLCMP2
