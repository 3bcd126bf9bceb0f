/-! ===== the statics that nobody writes, all facts of them in one ===== -/
def frmL : List (List Nat) := [[97, 108, 108, 111, 121, 32, 35, 35, 35], [109, 111, 117, 108, 100, 32, 42], [98, 117, 121, 32, 35, 32, 42], [99, 97, 115, 116, 32, 35, 32, 35, 32, 35], [116, 101, 115, 116, 32, 42], [109, 101, 108, 116, 32, 42], [114, 101, 110, 101, 119, 32, 35], [108, 105, 109, 105, 116, 32, 42], [115, 116, 101, 112, 32, 35]]
def frm (i : Nat) : List Nat := frmL.getD i []
def msgL : List (Nat × String) := [(298, "there is no such index"), (300, "a number is outside its bounds"), (302, "the present state does not allow this"), (306, "the store has too little of a metal"), (309, "there is no such batch, bow or rank"), (123, "there is no such position"), (210, "no bow has been cast"), (210, "no bow has been cast"), (123, "there is no such position"), (245, "the character code is not between 32 and 126"), (251, "the script buffer is full"), (264, "the script does not have the required form"), (273, "a command of the script failed"), (275, "no script has had a wrong form"), (277, "no script has had a failed command"), (279, "there is nothing to undo"), (285, "there is no snapshot")]
/-- the law's own texts: their pool entries, and their letters -/
def lsL : List (Nat × String) := [(144, "limit 7;step 5;renew 1;renew 0"), (156, "renew 0;step 6"), (164, "alloy 000"), (166, "m"), (172, "alloy 12"), (174, "cast 0 0"), (176, "buy 0 123"), (178, "test 123"), (180, ""), (182, "step 1;"), (184, "mx"), (186, "alloy 1234"), (188, "melt"), (189, "z"), (198, "alloy "), (207, "02;mould "), (209, ";buy 0 40;buy 2 20;cast 0 0 4")]
def ltL : List (List Nat) := [[108, 105, 109, 105, 116, 32, 55, 59, 115, 116, 101, 112, 32, 53, 59, 114, 101, 110, 101, 119, 32, 49, 59, 114, 101, 110, 101, 119, 32, 48], [114, 101, 110, 101, 119, 32, 48, 59, 115, 116, 101, 112, 32, 54], [97, 108, 108, 111, 121, 32, 48, 48, 48], [109], [97, 108, 108, 111, 121, 32, 49, 50], [99, 97, 115, 116, 32, 48, 32, 48], [98, 117, 121, 32, 48, 32, 49, 50, 51], [116, 101, 115, 116, 32, 49, 50, 51], [], [115, 116, 101, 112, 32, 49, 59], [109, 120], [97, 108, 108, 111, 121, 32, 49, 50, 51, 52], [109, 101, 108, 116], [122], [97, 108, 108, 111, 121, 32], [48, 50, 59, 109, 111, 117, 108, 100, 32], [59, 98, 117, 121, 32, 48, 32, 52, 48, 59, 98, 117, 121, 32, 50, 32, 50, 48, 59, 99, 97, 115, 116, 32, 48, 32, 48, 32, 52]]
def ltx (i : Nat) : List Nat := ltL.getD i []
/-- the exceptions that the class throws -/
def exL : List String := ["java/lang/IllegalArgumentException", "java/lang/IllegalStateException", "java/lang/IndexOutOfBoundsException", "java/lang/UnsupportedOperationException", "java/util/NoSuchElementException", "java/lang/ArithmeticException"]
def SF (sa : Nat → Nat) (A : Nat → Prop) (U : State) (H : Heap) : Prop :=
  va_Z "java/lang/String" "COMPACT_STRINGS" "Z" (.int 1) A U H ∧
  (va_Z "java/lang/Integer" "DigitOnes" "[B" (.ref (sa 0)) A U H ∧ va_T .byte (sa 0) 100 (fun j => .int (nI (48 + j % 10))) A U H) ∧
  (va_Z "java/lang/Integer" "DigitTens" "[B" (.ref (sa 1)) A U H ∧ va_T .byte (sa 1) 100 (fun j => .int (nI (48 + j / 10))) A U H) ∧
  (va_Z "BowFoundry" "COMMANDS" "[LBowFoundry$Command;" (.ref (sa 2)) A U H ∧ va_T (.object "BowFoundry$Command") (sa 2) 9 (fun j => .ref (sa (10 + j))) A U H) ∧
  (va_Z "BowFoundry$1" "$SwitchMap$BowFoundry$Command" "[I" (.ref (sa 3)) A U H ∧ va_T .int (sa 3) 9 (fun j => .int (nI (j + 1))) A U H) ∧
  (∀ i, i < 9 → va_O "BowFoundry$Command" (sa (10 + i)) A U H ∧ va_OF "java/lang/Enum" "ordinal" "I" (.int (nI i)) (sa (10 + i)) A U H ∧ va_OF "BowFoundry$Command" "form" "Ljava/lang/String;" (.ref (sa (20 + i))) (sa (10 + i)) A U H ∧
    va_O "java/lang/String" (sa (20 + i)) A U H ∧ va_OF "java/lang/String" "coder" "B" (.int 0) (sa (20 + i)) A U H ∧ va_OF "java/lang/String" "value" "[B" (.ref (sa (30 + i))) (sa (20 + i)) A U H ∧ va_T .byte (sa (30 + i)) (frm i).length (fun j => .int (nI ((frm i).getD j 0))) A U H) ∧
  vx_Zq Bundle.tN "UNASSIGNED_STACK" Bundle.steD A U H ∧ vx_Zq Bundle.tN "SUPPRESSED_SENTINEL" Bundle.listD A U H ∧
  va_Zq "jdk/internal/util/Preconditions" "SIOOBE_FORMATTER" "Ljava/util/function/BiFunction;" A U H ∧
  (∀ i, i < 17 → vk_R "BowFoundry" (msgL.getD i (0, "")).1 (msgL.getD i (0, "")).2 (sa (40 + i)) U) ∧
  (∀ i j, i < 6 → j < 5 → i ≠ j → va_Nc (exL.getD i "") (exL.getD j "") U) ∧
  (∀ i, i < 17 → va_O "java/lang/String" (sa (100 + i)) A U H ∧ va_OF "java/lang/String" "coder" "B" (.int 0) (sa (100 + i)) A U H ∧ va_OF "java/lang/String" "value" "[B" (.ref (sa (150 + i))) (sa (100 + i)) A U H ∧ va_T .byte (sa (150 + i)) (ltx i).length (fun j => .int (nI ((ltx i).getD j 0))) A U H ∧ vk_R "BowFoundryLaw" (lsL.getD i (0, "")).1 (lsL.getD i (0, "")).2 (sa (100 + i)) U) ∧
  (sa 91 ≤ 260 ∧ va_T .int (sa 90) (sa 91) (fun j => .int (nI (sa (1000 + j)))) A U H)
theorem SF.to {sa : Nat → Nat} {A B : Nat → Prop} {s U : State} {H H1 : Heap} (h : SF sa A s H) (hvm : s.vm.Alike U.vm) (hR : ∀ (C : String) (k a : Nat) (tx : String), vk_R C k tx a s → vk_R C k tx a U) (hq : ∀ a : Nat, a < H.size → ¬ A a → H1[a]? = H[a]?) (hAB : ∀ q, B q → A q) : SF sa B U H1 := by
  obtain ⟨h1, ⟨h2, h3⟩, ⟨h4, h5⟩, ⟨h6, h7⟩, ⟨h8, h9⟩, h10, h11, h12, h13, h14, h15, h16, h17, h18⟩ := h
  refine ⟨((h1.moved hvm).kept hq).narrow hAB, ⟨((h2.moved hvm).kept hq).narrow hAB, ((h3.moved hvm).kept hq).narrow hAB⟩, ⟨((h4.moved hvm).kept hq).narrow hAB, ((h5.moved hvm).kept hq).narrow hAB⟩, ⟨((h6.moved hvm).kept hq).narrow hAB, ((h7.moved hvm).kept hq).narrow hAB⟩, ⟨((h8.moved hvm).kept hq).narrow hAB, ((h9.moved hvm).kept hq).narrow hAB⟩, ?_, ((h11.moved hvm).kept hq).narrow hAB, ((h12.moved hvm).kept hq).narrow hAB, ((h13.moved hvm).kept hq).narrow hAB, fun i hi => hR _ _ _ _ (h14 i hi), fun i j hi hj hn => (h15 i j hi hj hn).moved hvm, ?_, h17, ((h18.moved hvm).kept hq).narrow hAB⟩
  rotate_left
  · intro i hi
    obtain ⟨g1, g2, g3, g4, g5⟩ := h16 i hi
    exact ⟨((g1.moved hvm).kept hq).narrow hAB, ((g2.moved hvm).kept hq).narrow hAB, ((g3.moved hvm).kept hq).narrow hAB, ((g4.moved hvm).kept hq).narrow hAB, hR _ _ _ _ g5⟩
  intro i hi
  obtain ⟨g1, g2, g3, g4, g5, g6, g7⟩ := h10 i hi
  exact ⟨((g1.moved hvm).kept hq).narrow hAB, ((g2.moved hvm).kept hq).narrow hAB, ((g3.moved hvm).kept hq).narrow hAB, ((g4.moved hvm).kept hq).narrow hAB, ((g5.moved hvm).kept hq).narrow hAB, ((g6.moved hvm).kept hq).narrow hAB, ((g7.moved hvm).kept hq).narrow hAB⟩
theorem SF.go {sa : Nat → Nat} {A B : Nat → Prop} {s U : State} {H : Heap} {locs : List Loc} (h : SF sa A s s.heap) (hS : va_S A s.heap H locs) (hU : U.heap = H) (hW : s.WarmedH U.vm) (hAB : ∀ q, B q → A q) : SF sa B U U.heap :=
  h.to hW.alike (fun _ _ _ _ q => vk_R.warm hW q) (fun a h1 h2 => by rw [hU]; exact hS.2.1 a h1 h2) hAB
theorem SF.calling {sa : Nat → Nat} {A : Nat → Prop} {U : State} (g : JFrame) (mk : MethodId) (a : Array Value) (h : SF sa A U U.heap) : SF sa A (U.calling g mk a) (U.calling g mk a).heap :=
  h.to (Vm.Alike.refl U.vm) (fun _ _ _ _ q => vk_R.same (u := U) rfl q) (fun _ _ _ => rfl) (fun _ q => q)
theorem va_AOA.moved {ty : FieldType} {u U : State} (hvm : u.vm.Alike U.vm) (h : va_AOA ty u) : va_AOA ty U := (Cond.arrayOver_setVmC (s := u) (args := #[]) hvm (.array ty)).trans h
theorem N0_vm {u U : State} (hv : u.vm = U.vm) (h : ∀ w ∈ N0, va_Nw w u) : ∀ w ∈ N0, va_Nw w U := by
  intro w hw
  have g := (List.mem_filter.mp hw).2
  have h1 := h w hw
  cases w with
  | fieldLinkNest a i b n d h => exact va_Nw.same rfl hv h1
  | methodLinkNest a i x h => exact va_Nw.same rfl hv h1
  | declares x => exact va_Nw.same rfl hv h1
  | privateMethod x => exact va_Nw.same rfl hv h1
  | castable a b => exact va_Nw.same rfl hv h1
  | arrayOver ty =>
    cases ty with
    | object C => exact va_AO.moved (hv ▸ Vm.Alike.refl u.vm) h1
    | array t => exact va_AOA.moved (hv ▸ Vm.Alike.refl u.vm) h1
    | _ => exact Bool.noConfusion g
  | _ => exact Bool.noConfusion g
theorem N0_warm {s U : State} (hW : s.WarmedH U.vm) (h : ∀ w ∈ N0, va_Nw w s) : ∀ w ∈ N0, va_Nw w U := by
  intro w hw
  have g := (List.mem_filter.mp hw).2
  have h1 := h w hw
  cases w with
  | fieldLinkNest a i b n d h => exact va_Nw.warmF hW h1
  | methodLinkNest a i x h => exact va_Nw.warmM hW h1
  | declares x => exact va_Nw.warmD hW h1
  | privateMethod x => exact Cond.privateMethod_warm hW h1
  | castable a b => exact va_Nw.warmC hW h1
  | arrayOver ty =>
    cases ty with
    | object C => exact va_AO.moved hW.alike h1
    | array t => exact va_AOA.moved hW.alike h1
    | _ => exact Bool.noConfusion g
  | _ => exact Bool.noConfusion g
/-! ===== contracts: a world before, a result and a world behind ===== -/
def PreW (G : xG) (ws : va_W) (sz : Nat) (U : State) : Prop := U.heap.size = sz ∧ va_P G.1 vwCl ws U.heap ∧ va_K G.1 vwCl (tysG G.2.1) U ∧ va_D (fun _ => True) ws ∧ SF G.2.2 (va_A ws sz) U U.heap ∧ ∀ w ∈ N0, va_Nw w U
def PostW (G : xG) (ws : va_W) (sz : Nat) (u : va_W) (t : State) : Prop := va_P G.1 vwCl u t.heap ∧ va_K G.1 vwCl (tysG G.2.1) t ∧ va_D (va_A ws sz) u
def QG (G : xG) (ws : va_W) (sz : Nat) (P : Option Value → va_W → Prop) : Array Value → State → Outcome → State → Prop := fun _ st oc t => (∃ (v : Option Value) (u : va_W), oc = .returned v ∧ P v u ∧ PostW G ws sz u t) ∧ va_F (va_A ws sz) st t
def XG (G : xG) (ws : va_W) (sz : Nat) (PX : String → va_W → Prop) : String → State → State → Prop := fun E st t => (∃ u : va_W, PX E u ∧ PostW G ws sz u t) ∧ va_F (va_A ws sz) st t
abbrev rmD (d mc ms : Nat) : Room := { frames := d, cells := mc, slots := ms, locals := 40 * d }
/-- the words of a method: its own code, then all words -/
abbrev wO (y : MethodName) (cc : ByteArray) (maxL : Nat) (ret : Option FieldType) : List Cond := .code y cc maxL ret :: T0
/-- a contract: from world ws, with arguments av, method y returns, P of its result and the world behind -/
def MG (l : Launch) (y : MethodName) (cc : ByteArray) (maxL : Nat) (ret : Option FieldType) (d mc ms : Nat) (G : xG) (av : List Value) (ws : va_W) (P : Option Value → va_W → Prop) : Prop :=
  ∀ sz : Nat, Met l y (wO y cc maxL ret) (rmD d mc ms) (va_Pc av (PreW G ws sz)) (QG G ws sz P) mc ms (va_A ws sz)
/-- a contract of a method that may throw: PX of the exception's class and the world then -/
def MX (l : Launch) (y : MethodName) (cc : ByteArray) (maxL : Nat) (ret : Option FieldType) (d mc ms : Nat) (G : xG) (av : List Value) (ws : va_W) (P : Option Value → va_W → Prop) (PX : String → va_W → Prop) : Prop :=
  ∀ sz : Nat, vx_Met l y (wO y cc maxL ret) (rmD d mc ms) (va_Pc av (PreW G ws sz)) (QG G ws sz P) (XG G ws sz PX) mc ms (va_A ws sz)
theorem PreW_blind {G : xG} {ws : va_W} {sz : Nat} {av : List Value} : FrameBlind (va_Pc av (PreW G ws sz)) := fun a U g mk q => by
  obtain ⟨q0, q1, q2, q3, q4, q5, q6⟩ := q
  exact ⟨q0, q1, q2, va_K.moved (u := U) (U := U.calling g mk a) (Vm.Alike.refl U.vm) q3, q4, q5.calling g mk a, N0_vm (u := U) (U := U.calling g mk a) rfl q6⟩
/-- what a run may end with -/
def Ends (X : xC) (ret : Option FieldType) (mc ms : Nat) (ws0 : va_W) (P : Option Value → va_W → Prop) : Prop := match X with
  | (p, l, e, R, s, m, args, below, meth, c, _, G, A, Q) => meth.sig.returnType = ret ∧ A = va_A ws0 s.heap.size ∧ ∀ (H : Heap) (locs : List Loc) (k n : Nat) (g : JFrame), W p l e R s m args below meth c H locs k n (MQ below (QG G ws0 s.heap.size P) args s mc ms A) g → W p l e R s m args below meth c H locs k n Q g
/-- what a run may throw -/
def Outs (X : xC) (mc ms : Nat) (ws0 : va_W) (PX : String → va_W → Prop) : Prop := match X with
  | (_, l, _, _, s, _, args, below, _, c, _, G, A, Q) => l.stackTraces = false ∧ c.exceptionTable.toList = [] ∧ A = va_A ws0 s.heap.size ∧ ∃ Qc, Q = vx_MQ below Qc (XG G ws0 s.heap.size PX) args s mc ms A
theorem room_of {ws : List Cond} {y : MethodName} {cc : ByteArray} {maxL : Nat} {ret : Option FieldType} {rm : Room} : (headSpec (.code y cc maxL ret :: ws) rm).room = rm := rfl
def c0_G (X : xC) : xG := X.2.2.2.2.2.2.2.2.2.2.2.1
theorem nlt {X : xC} {i M : Nat} (h : c0_nL X = M) (h2 : i < M) : ∀ nL : Nat, c0_nL X = nL → i < nL := fun nL q => by rw [← q, h]; exact h2
theorem lo_entry (vs : List Value) (n : Nat) (hc : ∀ v ∈ vs, v.category = 1) (hn : vs.length ≤ n) {L : List (Option Value)} (hL : ∀ (i : Nat) (v : Value), L[i]? = some (some v) → vs[i]? = some v) : lo_has ((lg_sl vs ++ List.replicate (n - (lg_sl vs).length) Slot.unset).toArray) n L := by
  have e : lg_sl vs = vs.map Slot.val := by
    unfold lg_sl
    clear hn hL
    induction vs with
    | nil => rfl
    | cons a t ih =>
      have h1 := hc a List.mem_cons_self
      rw [List.flatMap_cons, if_neg (by rw [h1]; decide), ih (fun v hv => hc v (List.mem_cons_of_mem _ hv))]
      rfl
  have h := lv_entry vs (n := n) (by rw [e]; simpa using hn)
  refine ⟨h.1, h.2.1, fun i v hi => ?_⟩
  have hv := hL i v hi
  have hlt := (List.getElem?_eq_some_iff.mp hv).1
  rw [e, List.getElem?_toArray, List.getElem?_append_left (by simpa using hlt), List.getElem?_map, hv]
  rfl
theorem MG_of {l : Launch} {y : MethodName} {cc : ByteArray} {maxL : Nat} {ret : Option FieldType} {d mc ms : Nat} {G : xG} {av : List Value} {ws : va_W} {P : Option Value → va_W → Prop} {own : String} (hpl : plainName y.cls = true) (ho : y.cls = own) (hc : ∀ v ∈ av, v.category = 1) (hn : av.length ≤ maxL)
    {L : List (Option Value)} (hL : ∀ (i : Nat) (v : Value), L[i]? = some (some v) → av[i]? = some v)
    (body : ∀ X : xC, Ok SF X cc own d mc ms → Ends X ret mc ms ws P → c0_nL X = maxL → c0_G X = G → c0_name X = y.name → V X 0 0 ws L [] 0) : MG l y cc maxL ret d mc ms G av ws P := by
  intro sz
  refine Met.ofW (cc := cc) (maxL := maxL) (ret := ret) hpl rfl ?_
  intro p e s m args below meth c s₁ B hml hv
  obtain ⟨rfl, hsz, hP, hK, hD, hF, hNw⟩ := hv
  subst hsz
  have hts := atoms_spec (ws := wO y cc maxL ret) B.pre
  have hown : s.vm.findClass own = some m.cls := by rw [← ho]; exact findClass_of_methodNamed B.named
  have h := body (p, l, e, rmD d mc ms, s, m, av.toArray, below, meth, c, maxL, G, va_A ws s.heap.size, MQ below (QG G ws s.heap.size P) av.toArray s mc ms (va_A ws s.heap.size))
    ⟨B.exec, B.bytes, hown, fun w hw => hts w (List.mem_cons_of_mem _ hw), hK, fun q h => Or.inr h, B.notSynchronized, hml, ⟨Nat.le_refl _, Nat.le_refl _, Nat.le_refl _, Nat.le_refl _⟩, hF, hNw⟩ ⟨B.returns, rfl, fun _ _ _ _ _ h => h⟩ rfl rfl ((name_of_methodNamed B.named B.method).1)
  rw [lg_entry_eq]
  exact h s.heap [] _ hP hD.self va_S.rf (lo_entry av maxL hc hn hL)
theorem MX_of {l : Launch} {y : MethodName} {cc : ByteArray} {maxL : Nat} {ret : Option FieldType} {d mc ms : Nat} {G : xG} {av : List Value} {ws : va_W} {P : Option Value → va_W → Prop} {PX : String → va_W → Prop} {own : String} (hst : l.stackTraces = false) (hpl : plainName y.cls = true) (ho : y.cls = own) (hc : ∀ v ∈ av, v.category = 1) (hn : av.length ≤ maxL)
    {L : List (Option Value)} (hL : ∀ (i : Nat) (v : Value), L[i]? = some (some v) → av[i]? = some v)
    (body : ∀ X : xC, Ok SF X cc own d mc ms → Ends X ret mc ms ws P → Outs X mc ms ws PX → c0_nL X = maxL → c0_G X = G → c0_name X = y.name → V X 0 0 ws L [] 0) : MX l y cc maxL ret d mc ms G av ws P PX := by
  intro sz
  refine vx_ofW (cc := cc) (maxL := maxL) (ret := ret) hpl rfl ?_
  intro p e s m args below meth c s₁ B hml hT hv
  obtain ⟨rfl, hsz, hP, hK, hD, hF, hNw⟩ := hv
  subst hsz
  have hts := atoms_spec (ws := wO y cc maxL ret) B.pre
  have hown : s.vm.findClass own = some m.cls := by rw [← ho]; exact findClass_of_methodNamed B.named
  have h := body (p, l, e, rmD d mc ms, s, m, av.toArray, below, meth, c, maxL, G, va_A ws s.heap.size, vx_MQ below (QG G ws s.heap.size P) (XG G ws s.heap.size PX) av.toArray s mc ms (va_A ws s.heap.size))
    ⟨B.exec, B.bytes, hown, fun w hw => hts w (List.mem_cons_of_mem _ hw), hK, fun q h => Or.inr h, B.notSynchronized, hml, ⟨Nat.le_refl _, Nat.le_refl _, Nat.le_refl _, Nat.le_refl _⟩, hF, hNw⟩ ⟨B.returns, rfl, fun _ _ _ _ _ h => vx_ret h⟩ ⟨hst, List.eq_nil_iff_forall_not_mem.mpr hT, rfl, _, rfl⟩ rfl rfl ((name_of_methodNamed B.named B.method).1)
  rw [lg_entry_eq]
  exact h s.heap [] _ hP hD.self va_S.rf (lo_entry av maxL hc hn hL)
