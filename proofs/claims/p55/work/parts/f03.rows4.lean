/-! ===== new arrays by their kind, rows of arrays, Enum.ordinal ===== -/
theorem inner0 (c : ClassId) (K : Nat) : Jvm.Free.Multi.innerC c K (defaultValue .int) = vp_cell c (aN K (fun _ => 0)) := by
  show ({ cls := c, slots := Array.replicate K (.int 0), vm := .none } : Cell) = { cls := c, slots := Array.ofFn (n := K) fun _ => .int (nI 0), vm := .none }
  congr 1
  refine Array.ext (by simp) (fun i h1 h2 => ?_)
  simp only [Array.getElem_replicate, Array.getElem_ofFn]
  rfl
section VROW4
variable {X : xC} {cc : ByteArray} {own : String} {d mc ms : Nat} {k n : Nat} {ws : va_W} {L : List (Option Value)} {st : List Value} {pc pc' : Nat}
theorem r_newI {N k' n' : Nat} {cy : Nat → ClassId} (hX : Ok SF X cc own d mc ms) (hd : decode cc pc = .ok (.newarray .int, 2)) (hcy : c0_cy X = cy) (hN : N < 67108864) (hk : k + 1 = k') (hn : n + N = n') (hk2 : k' ≤ mc) (hn2 : n' ≤ ms) (hp : pc + 2 = pc') (h : ∀ q : Nat, V X k' n' (ws ++ [(q, Sum.inl (cy 0, aN N (fun _ => 0)))]) L (.ref q :: st) pc') : V X k n ws L (.int (nI N) :: st) pc := by
  subst hcy
  exact r_newa (t0 := 0) hX hd (m1 (j := 82) rfl rfl) rfl 0 rfl (fun U cA h => h) (fun cA => rfl) hN (by decide) hk hn hk2 hn2 hp h
theorem r_newB {N k' n' : Nat} {cy : Nat → ClassId} (hX : Ok SF X cc own d mc ms) (hd : decode cc pc = .ok (.newarray .byte, 2)) (hcy : c0_cy X = cy) (hN : N < 67108864) (hk : k + 1 = k') (hn : n + N = n') (hk2 : k' ≤ mc) (hn2 : n' ≤ ms) (hp : pc + 2 = pc') (h : ∀ q : Nat, V X k' n' (ws ++ [(q, Sum.inl (cy 2, aN N (fun _ => 0)))]) L (.ref q :: st) pc') : V X k n ws L (.int (nI N) :: st) pc := by
  subst hcy
  exact r_newa (t0 := 0) hX hd (m1 (j := 182) rfl rfl) rfl 2 rfl (fun U cA h => h) (fun cA => rfl) hN (by decide) hk hn hk2 hn2 hp h
theorem r_alenN {a n0 : Nat} {g : Nat → Nat} {cA : ClassId} {ty : FieldType} (hX : Ok SF X cc own d mc ms) (hd : decode cc pc = .ok (.arraylength, 1)) (t0 : Nat) (ht : (tysG (c0_cy X))[t0]? = some (cA, ty)) (q0 : Nat) (he : ws[q0]? = some (a, Sum.inl (cA, aN n0 g))) (hp : pc + 1 = pc') (h : V X k n ws L (.int (nI n0) :: st) pc') : V X k n ws L (.ref a :: st) pc :=
  r_alen hX hd t0 ht (List.mem_of_getElem? he) rfl hp h
/-- a row of arrays of ints -/
theorem r_mna {index N K k' n' : Nat} {cy : Nat → ClassId} (hX : Ok SF X cc own d mc ms) (hd : decode cc pc = .ok (.multianewarray index 2, 4)) (hcy : c0_cy X = cy) (hcl : Cond.classLink own index "[[I" ∈ T0) (hov : Cond.arrayOver (.array .int) ∈ N0) (hN : N < 1000) (hK9 : K < 1000) (hk : k + 1 + N = k') (hn : n + N + N * K = n') (hk2 : k' ≤ mc) (hn2 : n' ≤ ms) (hp : pc + 4 = pc')
    (h : ∀ (q : Nat) (r : Nat → Nat), V X k' n' ((ws ++ [(q, Sum.inl (cy 3, aR N (fun i => if i < N then some (r i) else none)))]) ++ (List.range N).map (fun i => (r i, Sum.inl (cy 0, aN K (fun _ => 0))))) L (.ref q :: st) pc') : V X k n ws L (.int (nI K) :: .int (nI N) :: st) pc := by
  obtain ⟨p, l, e, R, s, m, args, below, meth, c, nL, G, A, Q⟩ := X
  obtain ⟨hx, hb, hown, hts, hK, hA, hlk, hml, hR, hsf, hNw⟩ := hX
  subst hp hcy hk hn
  intro H locs ls hP hD hS hl
  refine va_mna (D := G.1) (X := ws) (L := []) (f := fun _ => .inr (0, [])) (ty := .int) (z := aN K (fun _ => 0)) (N' := N) (K' := K) (cy := G.2.1 0) hx hb hown (hts _ hcl) (hNw _ hov) (hts _ (m1 (j := 82) rfl rfl)) ((hK.2 0 _ rfl).2) hK (by rw [show va_pl [] _ = [] from rfl, List.append_nil]; exact hP) (by rw [show va_pl [] _ = [] from rfl, List.append_nil]; exact hD) hS hA (nI_pos (by omega)) (nI_pos (by omega)) (nI_clamp (by omega)) (nI_clamp (by omega)) (by omega) (by show K * 4 ≤ _; omega) (by omega) rfl rfl (by have := hR.2.2.1; show k + (1 + N) ≤ R.cells; omega) (by have := hR.2.2.2; show n + (N + N * K) ≤ R.slots; omega) (fun c => inner0 c K) hd (fun q r cA H1 hrr _ hK1 hP1 hD1 hS1 => ?_)
  have e1 := (hK.2 3 _ rfl).2
  have e2 := (hK1.2 _ (cA, FieldType.array .int) (by rw [List.getElem?_append_right (Nat.le_refl _)]; simp)).2
  cases Option.some.inj (e2.symm.trans e1)
  have e3 : va_pl ([] ++ (List.range N).map r) (vr_up (fun _ => .inr (0, [])) ((List.range N).map r) (.inl (G.2.1 0, aN K (fun _ => 0)))) = (List.range N).map (fun i => (r i, Sum.inl (G.2.1 0, aN K (fun _ => 0)))) := by
    rw [← vr_rows (f := fun _ => .inr (0, [])) (L := []) (fun a _ h => by cases h)]
    show [] ++ _ = _
    rw [List.nil_append, List.map_map]
    rfl
  rw [e3] at hP1 hD1
  exact h q r H1 locs ls hP1 hD1 hS1 hl
end VROW4
section XSG
variable {p : Program} {l : Launch} {e : Env} {R : Room} {s : State} {m : MethodId} {args : Array Value} {below : List Frame} {meth : Method} {c : Code}
/-- a getter of an int that a superclass has, by an object of the subclass: walked in place, so no word is asked about the superclass's initialization -/
theorem xs_getUp {T : State} {locs : List Loc} {cells slots : Nat} (X : Stand p l e R s m args below meth c T locs cells slots) (hexec : p.tables.exec = Jvm.exec) {own C owner : String} {index fidx : Nat} {x y : MethodName} {bytes : ByteArray}
    (hown : s.vm.findClass own = some m.cls) (hlink : (Cond.methodLink own index x).before args s = true) (hsame : (Cond.sameMethod x.cls owner x.name x.desc).before args s = true)
    (hd0 : va_Decl s ⟨owner, x.name, x.desc⟩) (howner : owner ≠ "java/lang/invoke/MethodHandle" ∧ owner ≠ "java/lang/invoke/VarHandle")
    (hsel : (Cond.selects C x y).before args s = true) (hinst : (Cond.instanceMethod y).before args s = true) (hcode : (Cond.code y bytes 1 (some .int)).before args s = true) (hplain : plainName y.cls = true)
    {b : Addr} {cellB : Cell} (hcell : T.heap[b]? = some cellB) (hobj : cellB.vm.isStatics = false) (hcls : s.vm.findClass C = some cellB.cls)
    {ref nm ds : String} (hfl : (Cond.fieldLink y.cls fidx ref nm ds).before args s = true) {cf i : Nat} {kf : Class} {f : Field} (hi : s.fieldFound? ref nm ds = some (cf, kf, i, f)) (hst : f.isStatic = false) (hknown : cellB.vm ≠ .unknown) {v : Int32} (hslot : cellB.slots[f.slot]? = some (.int v))
    (h0 : decode bytes 0 = .ok (.aload_n 0, 1)) (h1 : decode bytes 1 = .ok (.getfield fidx, 3)) (h4 : decode bytes 4 = .ok (.ireturn, 1))
    {g : JFrame} (hg : g.method = m) (hsize : g.locals.size = c.maxLocals) {rest : List Value} (hlen : ∀ sig, parseMethodDescriptor x.desc = some sig → sig.parameters.length = 0)
    (hstack : g.stack = .ref b :: rest) (hfr : 1 ≤ R.frames) (hW : 2 * g.monitorRoom + (rest.map fun v => v.category).sum + (1 + 11) ≤ R.locals) (hdg : decode c.code g.pc = .ok (.invokevirtual index, 3)) :
    ∃ vm', Stand p l e R s m args below meth c (T.setVm vm') locs cells slots ∧
      ∀ target, Steps p.tables e below ((T.setVm vm').setTop { g with pc := g.pc + 3, stack := .int v :: rest }) target → Steps p.tables e below (T.setTop g) target := by
  obtain ⟨r0, r, hn, hrm, hstR, hsigR⟩ := hd0
  obtain ⟨cn, ck, r1, hcn, hck, hni, hf9, hn1⟩ := Cond.sameMethod_found hsame
  cases hn.symm.trans hn1
  obtain ⟨mk, methM, hnamed, hmethM, -, habM⟩ := Cond.instanceMethod_spec hinst
  obtain ⟨c2, r2, m2, q1, q2, q3, q4, kP, hkP, hkPi⟩ := Cond.selects_spec hsel
  cases hcls.symm.trans q1
  cases hf9.symm.trans q2
  cases hnamed.symm.trans q3
  have hselP : selectMethod e.platform s.vm cellB.cls r0 = .method mk := by rw [Launch.admits_selectMethod X.admits]; exact q4
  obtain ⟨vm₁, X₁, hstep₁⟩ := X.invokevirtualUp hexec hown hlink hsame howner hn hrm hstR (a := b) (cell := cellB) hcell
    (fun z h => by rw [h] at hobj; cases hobj) hselP hmethM habM hkP hkPi (g := g) hg (argsL := []) (rest := rest) (hlen _ hsigR).symm hstack hdg
  obtain ⟨methY, cY, hmY, hcY, hbY, hlY, hrY, hkY, -⟩ := Cond.code_spec hnamed hcode
  cases hmethM.symm.trans hmY
  have hpl : e.platform.magicAccessors = ({} : Platform).magicAccessors := by rw [X.admits.platform]
  obtain ⟨ci', cfl, k', i', f', hi', hlinks, hright⟩ := Cond.fieldLink_spec (findClass_of_methodNamed hnamed) hfl e.platform hpl
  cases hi.symm.trans hi'
  obtain ⟨hk, hf⟩ := State.fieldFound?_spec hi
  obtain ⟨vm₂, hgives, hW', hready, hfi⟩ := State.fieldEntry (e := e) X₁.warmed hlinks hright hk hf
  refine ⟨vm₂, X.noted hW', fun target hrest => hstep₁ _ fun acts => ?_⟩
  have hAt : At (T.setVm vm₁) ({ g with stack := rest } : JFrame).method c below := by
    show At (T.setVm vm₁) g.method c below
    rw [hg]; exact X₁.here
  refine Steps.intGetterInline (g := { g with stack := rest }) (index := fidx) (len := 3) hAt hexec acts (m := mk) (meth := methM) (code := cY) ?_ hcY hkY ?_ hrY hlY (by rw [hbY]; exact h0) (by rw [hbY]; exact h1) (by rw [hbY]; exact h4) ?_ hdg (X₁.warmed.alike.symm.trans hW'.alike) hgives hready hfi hst hcell hknown hslot hrest
  · rw [X₁.warmed.alike.method?]; exact hmethM
  · refine State.plainMethod.of_name ?_
    intro k hk
    obtain ⟨k', hk', hnk⟩ := className_of_methodNamed (X₁.named hnamed)
    cases (show (T.setVm vm₁).vm.classes[mk.cls]? = some k from hk).symm.trans hk'
    rw [hnk]; exact hplain
  · exact X₁.notFull (g := { g with stack := rest }) hsize hfr (by rw [hlY]; exact hW)
end XSG
section VORD
variable {X : xC} {cc : ByteArray} {d mc ms : Nat} {k n : Nat} {ws : va_W} {L : List (Option Value)} {st : List Value} {pc pc' : Nat}
theorem r_ordinal {i q : Nat} (hX : Ok SF X cc RX3 d mc ms) (hd : decode cc pc = .ok (.invokevirtual 61, 3)) (hO : ∀ (A : Nat → Prop) (U : State) (H : Heap), SF (c0_G X).2.2 A U H → va_O "BowFoundry$Command" q A U H ∧ va_OF "java/lang/Enum" "ordinal" "I" (.int (nI i)) q A U H) (hd9 : 1 ≤ d) (hst : (st.map fun v => v.category).sum ≤ 8) (hp : pc + 3 = pc') (h : V X k n ws L (.int (nI i) :: st) pc') : V X k n ws L (.ref q :: st) pc := by
  obtain ⟨p, l, e, R, s, m, args, below, meth, c, nL, G, A, Q⟩ := X
  obtain ⟨hx, hb, hown, hts, hK, hA, hlk, hml, hR, hsf, hNw⟩ := hX
  subst hp
  intro H locs ls hP hD hS hl
  obtain ⟨o1, o2⟩ := hO _ _ _ hsf
  obtain ⟨cell, q1, q2, q3, -⟩ := o1.kept hS.2.1
  obtain ⟨cf, kf, fi, f, cell2, g1, g2, g3, g4, g5, -⟩ := o2.kept hS.2.1
  cases q1.symm.trans g3
  intro T hT Xs
  subst hT
  have hi6 : (Cond.instanceMethod yJx29ce0_ordinal_8abf5).before args s = true := hts _ (m5 (j := 89) rfl rfl)
  have hc6 : (Cond.code yJx29ce0_ordinal_8abf5 cJx29ce0_ordinal_8abf5 1 (some .int)).before args s = true := hts _ (m5 (j := 90) rfl rfl)
  obtain ⟨vm', X', st'⟩ := xs_getUp Xs hx (own := RX3) (C := "BowFoundry$Command") (owner := "java/lang/Enum") (index := 61) (fidx := 7) (x := ⟨"BowFoundry$Command", "ordinal", "()I"⟩) (y := yJx29ce0_ordinal_8abf5) (bytes := cJx29ce0_ordinal_8abf5) hown (hts _ (m5 (j := 85) rfl rfl)) (hts _ (m5 (j := 86) rfl rfl)) (va_Decl.of hi6 hc6) (by decide) (hts _ (m5 (j := 88) rfl rfl)) hi6 hc6 (by decide +kernel) q1 q2 q3 (ref := "java/lang/Enum") (nm := "ordinal") (ds := "I") (hts _ (m6 (j := 56) rfl rfl)) g1 g2 g4 g5 dJx29ce0_ordinal_8abf5_0 dJx29ce0_ordinal_8abf5_1 dJx29ce0_ordinal_8abf5_4 (g := F0 m pc ls (.ref q :: st)) rfl (hl.1.trans hml.symm) (rest := st) (fun sig h9 => by
      have : (parseMethodDescriptor "()I").map (fun d => d.parameters.length) = some 0 := by decide +kernel
      rw [h9] at this
      exact Option.some.inj this) rfl (Nat.le_trans hd9 hR.1) (by have := hR.2.1; show 2 * 0 + _ + 12 ≤ R.locals; omega) (by rw [hb]; exact hd)
  obtain ⟨t, a1, b1⟩ := h T.heap locs ls hP hD hS hl (T.setVm vm') rfl X'
  exact ⟨t, st' t a1, b1⟩
end VORD
