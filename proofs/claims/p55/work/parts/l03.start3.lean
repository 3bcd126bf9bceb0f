/-! ===== whole_start, and the claim ===== -/
/-! THE CLAIM OUT OF ONE WALK OF THE LAW'S BODY. Your part is whole_start (and what it stands on); all else here is the same for every law, but numbers. -/
def R_law : String := "BowFoundryLaw"
def lw_P (b : Addr) (xs : List Int32) (args : Array Value) (s : State) : Prop := args = #[.ref b] ∧ s.IntsAt b xs ∧ xs.length ≤ 260 ∧ (Jvm.Cond.and given_1 narrow_1).before args s = true
/-- what a walk over the start with the record d0 says of its end, said of the start itself -/
theorem lw_closed {s t : State} {o : Outcome} {d0 : Drawn} {L : List Loc} {k n : Nat} (hd0 : s.drawn.sameBut d0 lw_cs) (hv : ∃ v, o = .returned v) (hW : (s.setDrawn d0).WarmedH t.vm) (hs : (s.setDrawn d0).sameButNew ({ t with vm := s.vm } : State) L k n) : State.butDraws s t lw_cs (fun t1 => Framed s o t1 L k n) := by
  have h2 : t.drawn = d0 := congrArg State.drawn hs.1
  refine ⟨⟨hv, hW, State.sameButNew.setDrawn hs s.drawn⟩, ?_, by decide⟩
  rw [h2]
  exact hd0
def lw_Q (_ : Array Value) (s : State) (o : Outcome) (t : State) : Prop := o = .returned (some (.int 1)) ∧ State.butDraws s t lw_cs (fun t1 => Framed s o t1 [] 773179 6772830)
def lw_Z (below : List Frame) (a : Array Value) (s : State) : State → Prop := fun t => ∃ o, t.status = .running ∧ Ended t below o ∧ lw_Q a s o t
/-- the law's own end, with 1 on the stack, nothing written that was there before, its room as the claim has it; d0: the record of draws at this point (at the entry s.drawn: begin with 'refine W.base ?_' and 'have hd0 := Drawn.sameBut.refl s.drawn lw_cs') -/
theorem lw_ret {p : Program} {l : Launch} {e : Env} {s : State} {m : MethodId} {below : List Frame} {meth : Method} {c : Code} {b : Nat} {d0 : Drawn} (hd0 : s.drawn.sameBut d0 lw_cs) (hx : p.tables.exec = Jvm.exec) (hb : c.code = code) (hr : meth.sig.returnType = ret) (hlocks : meth.locks = false) {pc : Nat} {H : Heap} {ls : Array Slot} (hdg : decode code pc = .ok (.ireturn, 1)) : W p l e room_1 (s.setDrawn d0) m #[Value.ref b] below meth c H [] 773179 6772830 (lw_Z below #[Value.ref b] s) (F0 m pc ls [.int 1]) := by
  intro T hT X
  obtain ⟨fs, hret, hrun, hended, hW, hframe⟩ := X.leave (v := some (.int 1)) (hlocks := hlocks) (fun h => by rw [hr] at h; cases h)
  have hmeth' : T.vm.method? m = some meth := X.method'
  refine ⟨T.setFrames fs, ?_, .returned (some (.int 1)), hrun, hended, rfl, lw_closed hd0 ⟨_, rfl⟩ hW hframe⟩
  jvm_step X.here [X.here.top, hx, hb, hdg, hmeth', hr, ret, narrow_b1]
  (try refine ⟨rfl, ?_⟩); (try refine ⟨rfl, ?_⟩)
  first | (intro acts; rw [hret _ acts rfl rfl rfl]) | rw [hret _ _ rfl rfl rfl]
  exact Steps.refl _
/-- what holds at the law's entry: the machine, the code, the tables' words (any of lw_tbl by 'hts w (by decide +kernel)'), the script of L ints xs at the cell b, what the Statement gives of the start (any of its parts by flat_of_before) -/
def lw_At (p : Program) (s : State) (m : MethodId) (meth : Method) (c : Code) (b L : Nat) (xs : Nat → Int32) : Prop :=
  p.tables.exec = Jvm.exec ∧ c.code = code ∧ meth.sig.returnType = ret ∧ c.maxLocals = 12 ∧ s.vm.findClass R_law = some m.cls ∧ (∀ w ∈ lw_tbl, w.before #[Value.ref b] s = true) ∧ va_X b L xs s s.heap ∧ b < s.heap.size ∧ meth.locks = false ∧ (Jvm.Cond.and given_1 narrow_1).before #[Value.ref b] s = true
/-- the words kept by laws of their own say the same of any arguments -/
theorem nwd_Nw {w : Cond} (h : nwd w = true) {A : Array Value} {u : State} (hb : w.before A u = true) : va_Nw w u := by
  cases w <;> first | exact va_tabs rfl rfl hb | exact hb | exact absurd h (by simp [nwd])
/-- YOUR PART: from the entry, for every script of at most 260 ints, the law comes to its end with true ('hflags': the launch's flags, for a law that throws: no stack traces) -/
theorem whole_start {p : Program} {e : Env} {s : State} {m : MethodId} {below : List Frame} {meth : Method} {c : Code} (l : Launch) (hflags : l.flags = flags0) {b L : Nat} {xs : Nat → Int32} (hL : L ≤ 260) (C0 : lw_At p s m meth c b L xs) : W p l e room_1 s m #[Value.ref b] below meth c s.heap [] 0 0 (lw_Z below #[Value.ref b] s) (entryFrame m ([Value.ref b] : List Value).toArray 12) := by
  obtain ⟨hx, hb, hr, hml, hown, hts, hXs, hbl, hlocks, hgv⟩ := C0
  have hd0 := Drawn.sameBut.refl s.drawn lw_cs
  have hn : ∀ w ∈ nwL, w.before #[Value.ref b] s = true := flat_of_before _ hgv
  have hT0 : ∀ w ∈ T0, w.before #[Value.ref b] s = true := fun w hw => hts w (List.mem_filter.mp hw).1
  have hNw : ∀ w ∈ N0, va_Nw w s := fun w hw => nwd_Nw (List.mem_filter.mp hw).2 (hts w (List.mem_filter.mp hw).1)
  obtain ⟨D, cy, hK⟩ := start_K hT0 hNw
  obtain ⟨sa, hSF, hsb⟩ := SF_start hts hn hXs hbl hL
  have hst : l.stackTraces = false := by
    unfold Launch.stackTraces
    rw [hflags]
    decide +kernel
  have hX : Ok SF (p, l, e, room_1, s, m, #[Value.ref b], below, meth, c, 12, (D, cy, sa), (fun q => s.heap.size ≤ q), lw_Z below #[Value.ref b] s) cL_law RL 20 5000 130000 := ⟨hx, hb, hown, hT0, hK, fun q h => h, hlocks, hml, ⟨by decide, by decide, by decide, by decide⟩, hSF, hNw⟩
  have hP0 : va_P D vwCl [] s.heap := fun k q h => by simp at h
  have hD0 : va_D (fun q => s.heap.size ≤ q) [] := ⟨fun i j x y h => by simp at h, fun k q h => by simp at h⟩
  have hV := law_all (X := (p, l, e, room_1, s, m, #[Value.ref b], below, meth, c, 12, (D, cy, sa), (fun q => s.heap.size ≤ q), lw_Z below #[Value.ref b] s)) (l := l) (D := D) (cy := cy) (sa := sa) hX rfl rfl rfl rfl hst (fun k n ws L hk hn9 => by
    intro H locs ls hP hD hS hl
    refine va_forget (fun q hq => hS.2.2 q hq) ?_
    refine W.widen (show k ≤ 773179 by omega) (show n ≤ 6772830 by omega) ?_
    exact W.base (lw_ret hd0 hx hb hr hlocks dL_law_1208))
  rw [lg_entry_eq]
  exact hV s.heap [] _ hP0 hD0 va_S.rf (lo_entry [Value.ref b] 12 (fun v hv => by
    cases List.mem_singleton.mp hv
    rfl) (Nat.le_of_ble_eq_true rfl) (fun i v hi => by
    match i, hi with
    | 0, hi => rw [hsb] at hi; exact Option.some.inj hi ▸ rfl
    | i + 1, hi =>
      exfalso
      match i, hi with
      | 0, hi => cases hi
      | 1, hi => cases hi
      | 2, hi => cases hi
      | 3, hi => cases hi
      | 4, hi => cases hi
      | 5, hi => cases hi
      | 6, hi => cases hi
      | 7, hi => cases hi
      | 8, hi => cases hi
      | 9, hi => cases hi
      | 10, hi => cases hi
      | i + 11, hi => simp at hi))
