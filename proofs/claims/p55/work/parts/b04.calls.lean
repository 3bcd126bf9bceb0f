/-! ===== ends of a run ===== -/
section VENDS
variable {X : xC} {cc : ByteArray} {own : String} {d mc ms : Nat} {k n : Nat} {ws ws0 : va_W} {L : List (Option Value)} {st : List Value} {pc pc' : Nat} {P : Option Value → va_W → Prop} {PX : String → va_W → Prop}

theorem r_ireturn {v : Int32} (hX : Ok SF X cc own d mc ms) {ret : Option FieldType} (hE : Ends X ret mc ms ws0 P) (hd : decode cc pc = .ok (.ireturn, 1)) (hret : ret = some .int) (hP : P (some (.int v)) ws) (hk : k ≤ mc) (hn : n ≤ ms) : V X k n ws L ([.int v]) pc := by
  obtain ⟨p, l, e, R, s, m, args, below, meth, c, nL, G, A, Q⟩ := X
  obtain ⟨hx, hb, hown, hts, hK, hA, hlk, hml, hR, hsf, hNw⟩ := hX
  obtain ⟨hr, rfl, hQ⟩ := hE
  intro H locs ls hP1 hD hS hl
  refine hQ H locs k n _ (W.widen hk hn ?_)
  exact W.iret hx hb (hr.trans hret) (fun t ht hW => ⟨⟨_, ws, rfl, hP, by rw [ht]; exact hP1, va_K.moved hW.alike hK, hD⟩, hS.F ht⟩) hS.2.2 hd hlk
theorem r_zreturn {v : Int32} (hX : Ok SF X cc own d mc ms) {ret : Option FieldType} (hE : Ends X ret mc ms ws0 P) (hd : decode cc pc = .ok (.ireturn, 1)) {ty : FieldType} (hret : ret = some ty) (hnr : narrow ty (.int v) = .int v) (hP : P (some (.int v)) ws) (hk : k ≤ mc) (hn : n ≤ ms) : V X k n ws L ([.int v]) pc := by
  obtain ⟨p, l, e, R, s, m, args, below, meth, c, nL, G, A, Q⟩ := X
  obtain ⟨hx, hb, hown, hts, hK, hA, hlk, hml, hR, hsf, hNw⟩ := hX
  obtain ⟨hr, rfl, hQ⟩ := hE
  intro H locs ls hP1 hD hS hl
  refine hQ H locs k n _ (W.widen hk hn ?_)
  exact W.zret hx hb (hr.trans hret) hnr (fun t ht hW => ⟨⟨_, ws, rfl, hP, by rw [ht]; exact hP1, va_K.moved hW.alike hK, hD⟩, hS.F ht⟩) hS.2.2 hd hlk
theorem r_vreturn  (hX : Ok SF X cc own d mc ms) {ret : Option FieldType} (hE : Ends X ret mc ms ws0 P) (hd : decode cc pc = .ok (.return_, 1)) (hret : ret = none) (hP : P (none) ws) (hk : k ≤ mc) (hn : n ≤ ms) : V X k n ws L ([]) pc := by
  obtain ⟨p, l, e, R, s, m, args, below, meth, c, nL, G, A, Q⟩ := X
  obtain ⟨hx, hb, hown, hts, hK, hA, hlk, hml, hR, hsf, hNw⟩ := hX
  obtain ⟨hr, rfl, hQ⟩ := hE
  intro H locs ls hP1 hD hS hl
  refine hQ H locs k n _ (W.widen hk hn ?_)
  exact W.vret hx hb (hr.trans hret) (fun t ht hW => ⟨⟨_, ws, rfl, hP, by rw [ht]; exact hP1, va_K.moved hW.alike hK, hD⟩, hS.F ht⟩) hS.2.2 hd hlk
theorem r_areturn {v : Value} (hX : Ok SF X cc own d mc ms) {ret : Option FieldType} (hE : Ends X ret mc ms ws0 P) (hd : decode cc pc = .ok (.areturn, 1)) {rt : FieldType} (hret : ret = some rt) (hrt : (∃ n, rt = .object n) ∨ ∃ t, rt = .array t) (hv : v = .null ∨ ∃ a, v = .ref a) (hP : P (some v) ws) (hk : k ≤ mc) (hn : n ≤ ms) : V X k n ws L ([v]) pc := by
  obtain ⟨p, l, e, R, s, m, args, below, meth, c, nL, G, A, Q⟩ := X
  obtain ⟨hx, hb, hown, hts, hK, hA, hlk, hml, hR, hsf, hNw⟩ := hX
  obtain ⟨hr, rfl, hQ⟩ := hE
  intro H locs ls hP1 hD hS hl
  refine hQ H locs k n _ (W.widen hk hn ?_)
  exact W.aret hx hb (hr.trans hret) hrt hv (fun t ht hW => ⟨⟨_, ws, rfl, hP, by rw [ht]; exact hP1, va_K.moved hW.alike hK, hD⟩, hS.F ht⟩) hS.2.2 hd hlk
theorem r_dreturn {v : UInt64} (hX : Ok SF X cc own d mc ms) {ret : Option FieldType} (hE : Ends X ret mc ms ws0 P) (hd : decode cc pc = .ok (.dreturn, 1)) (hret : ret = some .double) (hP : P (some (.double v)) ws) (hk : k ≤ mc) (hn : n ≤ ms) : V X k n ws L ([.double v]) pc := by
  obtain ⟨p, l, e, R, s, m, args, below, meth, c, nL, G, A, Q⟩ := X
  obtain ⟨hx, hb, hown, hts, hK, hA, hlk, hml, hR, hsf, hNw⟩ := hX
  obtain ⟨hr, rfl, hQ⟩ := hE
  intro H locs ls hP1 hD hS hl
  refine hQ H locs k n _ (W.widen hk hn ?_)
  exact W.dret hx hb (hr.trans hret) (fun t ht hW => ⟨⟨_, ws, rfl, hP, by rw [ht]; exact hP1, va_K.moved hW.alike hK, hD⟩, hS.F ht⟩) hS.2.2 hd hlk
theorem r_freturn {v : UInt32} (hX : Ok SF X cc own d mc ms) {ret : Option FieldType} (hE : Ends X ret mc ms ws0 P) (hd : decode cc pc = .ok (.freturn, 1)) (hret : ret = some .float) (hP : P (some (.float v)) ws) (hk : k ≤ mc) (hn : n ≤ ms) : V X k n ws L ([.float v]) pc := by
  obtain ⟨p, l, e, R, s, m, args, below, meth, c, nL, G, A, Q⟩ := X
  obtain ⟨hx, hb, hown, hts, hK, hA, hlk, hml, hR, hsf, hNw⟩ := hX
  obtain ⟨hr, rfl, hQ⟩ := hE
  intro H locs ls hP1 hD hS hl
  refine hQ H locs k n _ (W.widen hk hn ?_)
  exact W.fret hx hb (hr.trans hret) (fun t ht hW => ⟨⟨_, ws, rfl, hP, by rw [ht]; exact hP1, va_K.moved hW.alike hK, hD⟩, hS.F ht⟩) hS.2.2 hd hlk
end VENDS
/-! ===== calls ===== -/
theorem P_app {D : va_G} {a b : va_W} {H : Heap} : va_P D vwCl (a ++ b) H ↔ va_P D vwCl a H ∧ va_P D vwCl b H := by
  constructor
  · intro h
    refine ⟨fun k q hq => h k q ?_, fun k q hq => h (a.length + k) q ?_⟩
    · rw [List.getElem?_append_left (List.getElem?_eq_some_iff.mp hq).1]
      exact hq
    · rw [List.getElem?_append_right (by omega), show a.length + k - a.length = k by omega]
      exact hq
  · exact fun h => h.1.app h.2
theorem D_left {A : Nat → Prop} {a b : va_W} (h : va_D A (a ++ b)) : va_D A a := by
  have e : ∀ (k : Nat) (q : Nat × va_E), a[k]? = some q → (a ++ b)[k]? = some q := fun k q hq => by
    rw [List.getElem?_append_left (List.getElem?_eq_some_iff.mp hq).1]
    exact hq
  exact ⟨fun i j p q hp hq hpq => h.1 i j p q (e i p hp) (e j q hq) hpq, fun k q hq => h.2 k q (e k q hq)⟩
theorem D_right {A : Nat → Prop} {a b : va_W} (h : va_D A (a ++ b)) : va_D A b := by
  have e : ∀ (k : Nat) (q : Nat × va_E), b[k]? = some q → (a ++ b)[a.length + k]? = some q := fun k q hq => by
    rw [List.getElem?_append_right (by omega), show a.length + k - a.length = k by omega]
    exact hq
  exact ⟨fun i j p q hp hq hpq => by have := h.1 _ _ p q (e i p hp) (e j q hq) hpq; omega, fun k q hq => h.2 _ q (e k q hq)⟩
theorem D_sep {A : Nat → Prop} {a b : va_W} (h : va_D A (a ++ b)) {i j : Nat} {p q : Nat × va_E} (hp : a[i]? = some p) (hq : b[j]? = some q) : p.1 ≠ q.1 := by
  intro e
  have hi := (List.getElem?_eq_some_iff.mp hp).1
  have := h.1 i (a.length + j) p q (by rw [List.getElem?_append_left hi]; exact hp) (by rw [List.getElem?_append_right (by omega), show a.length + j - a.length = j by omega]; exact hq) e
  omega
/-- behind a call: the callee's world, then the caller's other cells -/
theorem join_app {A0 : Nat → Prop} {D : va_G} {wc wr w1 : va_W} {H H1 : Heap} (hP : va_P D vwCl (wc ++ wr) H) (hD : va_D A0 (wc ++ wr))
    (hk : ∀ q : Nat, q < H.size → ¬ va_A wc H.size q → H1[q]? = H[q]?) (hF : ∀ q, va_A wc H.size q → A0 q) (hP1 : va_P D vwCl w1 H1) (hD1 : va_D (va_A wc H.size) w1) : va_P D vwCl (w1 ++ wr) H1 ∧ va_D A0 (w1 ++ wr) := by
  have hPr := (P_app.mp hP).2
  have apart : ∀ (k : Nat) (q : Nat × va_E), wr[k]? = some q → q.1 < H.size ∧ ¬ va_A wc H.size q.1 := by
    intro k q hq
    have hl := (hPr k q hq).lt
    refine ⟨hl, fun h => ?_⟩
    rcases h with ⟨k2, e, h⟩ | h
    · exact D_sep hD h hq rfl
    · omega
  refine ⟨hP1.app (hPr.kept (fun k q hq => hk q.1 (apart k q hq).1 (apart k q hq).2)), va_D.app (hD1.weaken (fun k q _ h => hF q.1 h)) (D_right hD) (fun i j x y hx hy hxy => ?_)⟩
  exact (apart j y hy).2 (by rw [← hxy]; exact hD1.2 i x hx)
theorem free_app {A0 : Nat → Prop} {wc wr : va_W} {H0 H : Heap} {locs : List Loc} (hD : va_D A0 (wc ++ wr)) (hS : va_S A0 H0 H locs) (hA : ∀ q, H0.size ≤ q → A0 q) : ∀ q, va_A wc H.size q → A0 q := by
  intro q h
  rcases h with ⟨k, e, h⟩ | h
  · exact (D_left hD).2 k (q, e) h
  · exact hA q (Nat.le_trans hS.1 h)
/-- what a call is, for one run of the caller: the callee's Met at its room, from this stack -/
def Run1 (X : xC) (mc' ms' : Nat) (G : xG) (wc : va_W) (av : List Value) (P : Option Value → va_W → Prop) (st0 rest : List Value) (L : List (Option Value)) (k n pc : Nat) : Prop := match X with
  | (p, l, e, R, s, m, args, below, meth, c, nL, _, A, _) => ∀ (H : Heap) (locs : List Loc) (ls : Array Slot), va_S A s.heap H locs → va_P G.1 vwCl wc H → va_D (fun _ => True) wc → (∀ q, va_A wc H.size q → A q) → lo_has ls nL L →
    va_Run p l e R s m args below meth c H locs k n mc' ms' (F0 m pc ls st0) rest (QG G wc H.size P av.toArray) (va_A wc H.size)
def Run1X (X : xC) (mc' ms' : Nat) (G : xG) (wc : va_W) (av : List Value) (P : Option Value → va_W → Prop) (PX : String → va_W → Prop) (st0 rest : List Value) (L : List (Option Value)) (k n pc : Nat) : Prop := match X with
  | (p, l, e, R, s, m, args, below, meth, c, nL, _, A, _) => ∀ (H : Heap) (locs : List Loc) (ls : Array Slot), va_S A s.heap H locs → va_P G.1 vwCl wc H → va_D (fun _ => True) wc → (∀ q, va_A wc H.size q → A q) → lo_has ls nL L →
    vx_Run p l e R s m args below meth c H locs k n mc' ms' (F0 m pc ls st0) rest (QG G wc H.size P av.toArray) (XG G wc H.size PX) (va_A wc H.size)
/-- a run in which an exception of class E is on its way, at pc -/
def VX (X : xC) (k n : Nat) (ws : va_W) (L : List (Option Value)) (st : List Value) (pc : Nat) (E : String) : Prop := match X with
  | (p, l, e, R, s, m, args, below, meth, c, nL, G, A, Q) => ∀ (H : Heap) (locs : List Loc) (ls : Array Slot) (q9 : Nat) (ce : Cell), va_P G.1 vwCl ws H → va_D A ws → va_S A s.heap H locs → lo_has ls nL L → H[q9]? = some ce → ce.vm = .none → s.vm.findClass E = some ce.cls → vx_W p l e R s m args below meth c H locs k n Q (F0 m pc ls st) q9
/-- the launch -/
def c0_l (X : xC) : Launch := X.2.1
section VCALLS
variable {X : xC} {cc : ByteArray} {own : String} {d mc ms : Nat} {k n : Nat} {ws ws0 wc wr : va_W} {L : List (Option Value)} {st0 rest : List Value} {pc pc' : Nat} {P : Option Value → va_W → Prop} {PX : String → va_W → Prop}
theorem V_call {mc' ms' k' n' : Nat} {av : List Value} (hX : Ok SF X cc own d mc ms) (hr : Run1 X mc' ms' (c0_G X) wc av P st0 rest L k n pc) (hperm : ws.Perm (wc ++ wr)) (hk : k + mc' = k') (hn : n + ms' = n') (hp : pc + 3 = pc')
    (cont : ∀ v u, P v u → V X k' n' (u ++ wr) L (v.toList ++ rest) pc') : V X k n ws L st0 pc := by
  refine V_perm hperm ?_
  obtain ⟨p, l, e, R, s, m, args, below, meth, c, nL, G, A, Q⟩ := X
  obtain ⟨hx, hb, hown, hts, hK, hA, hlk, hml, hR, hsf, hNw⟩ := hX
  subst hk hn hp
  intro H locs ls hP hD hS hl T hT X1
  have hF := free_app hD hS hA
  obtain ⟨v, st₀, t, T', L9, h0, X', hL, e1, e2, ⟨⟨v', u, hv, hp, hb9⟩, hz, hk9⟩, st⟩ := hr H locs ls hS (P_app.mp hP).1 ((D_left hD).weaken (fun _ _ _ _ => trivial)) hF hl T hT X1
  cases hv
  rw [h0] at hz hk9
  obtain ⟨hP1, hK1, hD1⟩ := hb9
  rw [← e1] at hP1
  obtain ⟨hPn, hDn⟩ := join_app (H1 := T'.heap) hP hD (fun q h1 h2 => by rw [e1]; exact hk9 q h1 h2) hF hP1 hD1
  obtain ⟨t2, a1, b1⟩ := cont v u hp T'.heap (locs ++ L9) ls hPn hDn ⟨Nat.le_trans hS.1 (by rw [e1]; exact hz), fun q h1 h2 => by
      rw [e1, hk9 q (Nat.lt_of_lt_of_le h1 hS.1) (fun z => h2 (hF q z))]
      exact hS.2.1 q h1 h2, fun q hq => by
      rcases List.mem_append.mp hq with h | h
      · exact hS.2.2 q h
      · exact hF _ (hL q h)⟩ hl T' rfl X'
  exact ⟨t2, st t2 a1, b1⟩
theorem V_callX {mc' ms' k' n' : Nat} {av : List Value} (hX : Ok SF X cc own d mc ms) (hr : Run1X X mc' ms' (c0_G X) wc av P PX st0 rest L k n pc) (hperm : ws.Perm (wc ++ wr)) (hk : k + mc' = k') (hn : n + ms' = n') (hp : pc + 3 = pc')
    (cont : ∀ v u, P v u → V X k' n' (u ++ wr) L (v.toList ++ rest) pc') (contX : ∀ E u, PX E u → VX X k' n' (u ++ wr) L rest pc E) : V X k n ws L st0 pc := by
  refine V_perm hperm ?_
  obtain ⟨p, l, e, R, s, m, args, below, meth, c, nL, G, A, Q⟩ := X
  obtain ⟨hx, hb, hown, hts, hK, hA, hlk, hml, hR, hsf, hNw⟩ := hX
  subst hk hn hp
  intro H locs ls hP hD hS hl T hT X1
  have hF := free_app hD hS hA
  rcases hr H locs ls hS (P_app.mp hP).1 ((D_left hD).weaken (fun _ _ _ _ => trivial)) hF hl T hT X1 with ⟨v, st₀, t, T', L9, h0, X', hL, e1, e2, ⟨⟨v', u, hv, hp, hb9⟩, hz, hk9⟩, st⟩ | ⟨q, st₀, t, T', L9, E, ce, h0, X', hL, e1, e2, ⟨⟨u, hp, hb9⟩, hz, hk9⟩, hce, hcv, hcl, st⟩
  · cases hv
    rw [h0] at hz hk9
    obtain ⟨hP1, hK1, hD1⟩ := hb9
    rw [← e1] at hP1
    obtain ⟨hPn, hDn⟩ := join_app (H1 := T'.heap) hP hD (fun q h1 h2 => by rw [e1]; exact hk9 q h1 h2) hF hP1 hD1
    obtain ⟨t2, a1, b1⟩ := cont v u hp T'.heap (locs ++ L9) ls hPn hDn ⟨Nat.le_trans hS.1 (by rw [e1]; exact hz), fun q h1 h2 => by
        rw [e1, hk9 q (Nat.lt_of_lt_of_le h1 hS.1) (fun z => h2 (hF q z))]
        exact hS.2.1 q h1 h2, fun q hq => by
        rcases List.mem_append.mp hq with h | h
        · exact hS.2.2 q h
        · exact hF _ (hL q h)⟩ hl T' rfl X'
    exact ⟨t2, st t2 a1, b1⟩
  · rw [h0] at hz hk9
    obtain ⟨hP1, hK1, hD1⟩ := hb9
    rw [← e1] at hP1
    obtain ⟨hPn, hDn⟩ := join_app (H1 := T'.heap) hP hD (fun q h1 h2 => by rw [e1]; exact hk9 q h1 h2) hF hP1 hD1
    obtain ⟨t2, a1, b1⟩ := contX E u hp T'.heap (locs ++ L9) ls q ce hPn hDn ⟨Nat.le_trans hS.1 (by rw [e1]; exact hz), fun q h1 h2 => by
        rw [e1, hk9 q (Nat.lt_of_lt_of_le h1 hS.1) (fun z => h2 (hF q z))]
        exact hS.2.1 q h1 h2, fun q hq => by
        rcases List.mem_append.mp hq with h | h
        · exact hS.2.2 q h
        · exact hF _ (hL q h)⟩ hl (by rw [e1]; exact hce) hcv hcl T' rfl X'
    exact ⟨t2, st.trans a1, b1⟩
/-- an exception leaves a method without a table -/
theorem VX_out {E : String} (hX : Ok SF X cc own d mc ms) (hO : Outs X mc ms ws0 PX) (hP : PX E ws) (hk : k ≤ mc) (hn : n ≤ ms) : VX X k n ws L rest pc E := by
  obtain ⟨p, l, e, R, s, m, args, below, meth, c, nL, G, A, Q⟩ := X
  obtain ⟨hx, hb, hown, hts, hK, hA, hlk, hml, hR, hsf, hNw⟩ := hX
  obtain ⟨hst, hT, rfl, Qc, rfl⟩ := hO
  intro H locs ls q9 ce hP1 hD hS hl h1 h2 h3
  exact vx_out (by rw [hT]; exact fun x hx => nomatch hx) hlk h1 h2 h3 (fun t ht hal => ⟨⟨ws, hP, by rw [ht]; exact hP1, va_K.moved hal hK, hD⟩, hS.F ht⟩) hS.2.2 hk hn

/-- how a virtual call of y links, by pool entry index of class own, with y's code -/
def KV (own : String) (index : Nat) (C : String) (y : MethodName) (cc : ByteArray) (maxL : Nat) (ret : Option FieldType) (na : Nat) : Prop := GoodIn T0 (wsV own index C y (wO y cc maxL ret)) ∧ y.cls = C ∧ y.cls ≠ "java/lang/invoke/MethodHandle" ∧ y.cls ≠ "java/lang/invoke/VarHandle" ∧ (parseMethodDescriptor y.desc).map (fun d => d.parameters.length) = some na
def KS (own : String) (index : Nat) (y : MethodName) (cc : ByteArray) (maxL : Nat) (ret : Option FieldType) (na : Nat) : Prop := GoodIn T0 (va_wsS own index y (wO y cc maxL ret)) ∧ y.cls ≠ "java/lang/invoke/MethodHandle" ∧ y.cls ≠ "java/lang/invoke/VarHandle" ∧ (parseMethodDescriptor y.desc).map (fun d => d.parameters.length) = some na
def KI (own : String) (index : Nat) (y : MethodName) (cc : ByteArray) (maxL : Nat) (na : Nat) : Prop := GoodIn T0 (wO y cc maxL none) ∧ Cond.initialized y.cls ∈ T0 ∧ Cond.methodLink own index y ∈ T0 ∧ Cond.instanceMethod y ∈ T0 ∧ y.name = "<init>" ∧ y.cls ≠ "java/lang/invoke/MethodHandle" ∧ y.cls ≠ "java/lang/invoke/VarHandle" ∧ (parseMethodDescriptor y.desc).map (fun d => d.parameters.length) = some na
theorem gT0 {a : List Cond} (h : ∀ w ∈ a, w ∈ T0) : GoodIn T0 a := fun w hw => T0_good w (h w hw)
theorem gO {y : MethodName} {cc : ByteArray} {maxL : Nat} {ret : Option FieldType} (h : Cond.code y cc maxL ret ∈ T0) : ∀ w ∈ wO y cc maxL ret, w ∈ T0 := fun w hw => by
  rcases List.mem_cons.mp hw with rfl | hw
  · exact h
  · exact hw
theorem KV_of {own : String} {index : Nat} {C : String} {y : MethodName} {cc : ByteArray} {maxL : Nat} {ret : Option FieldType} {na : Nat} (h1 : Cond.methodLink own index y ∈ T0) (h2 : Cond.instanceMethod y ∈ T0) (h3 : Cond.selects C y y ∈ T0) (h4 : Cond.initialized C ∈ T0) (h5 : Cond.code y cc maxL ret ∈ T0) (h6 : y.cls = C ∧ y.cls ≠ "java/lang/invoke/MethodHandle" ∧ y.cls ≠ "java/lang/invoke/VarHandle" ∧ (parseMethodDescriptor y.desc).map (fun d => d.parameters.length) = some na) : KV own index C y cc maxL ret na :=
  ⟨gT0 (fun w hw => by
    rcases List.mem_append.mp hw with h | h
    · simp only [List.mem_cons, List.not_mem_nil, or_false] at h
      rcases h with rfl | rfl | rfl | rfl <;> assumption
    · exact gO h5 w h), h6⟩
theorem KS_of {own : String} {index : Nat} {y : MethodName} {cc : ByteArray} {maxL : Nat} {ret : Option FieldType} {na : Nat} (h1 : Cond.methodLink own index y ∈ T0) (h2 : Cond.static y ∈ T0) (h4 : Cond.initialized y.cls ∈ T0) (h5 : Cond.code y cc maxL ret ∈ T0) (h6 : y.cls ≠ "java/lang/invoke/MethodHandle" ∧ y.cls ≠ "java/lang/invoke/VarHandle" ∧ (parseMethodDescriptor y.desc).map (fun d => d.parameters.length) = some na) : KS own index y cc maxL ret na :=
  ⟨gT0 (fun w hw => by
    rcases List.mem_append.mp hw with h | h
    · simp only [List.mem_cons, List.not_mem_nil, or_false] at h
      rcases h with rfl | rfl | rfl <;> assumption
    · exact gO h5 w h), h6⟩
theorem KI_of {own : String} {index : Nat} {y : MethodName} {cc : ByteArray} {maxL : Nat} {na : Nat} (h1 : Cond.methodLink own index y ∈ T0) (h2 : Cond.instanceMethod y ∈ T0) (h4 : Cond.initialized y.cls ∈ T0) (h5 : Cond.code y cc maxL none ∈ T0) (h6 : y.name = "<init>" ∧ y.cls ≠ "java/lang/invoke/MethodHandle" ∧ y.cls ≠ "java/lang/invoke/VarHandle" ∧ (parseMethodDescriptor y.desc).map (fun d => d.parameters.length) = some na) : KI own index y cc maxL na := ⟨gT0 (gO h5), h4, h1, h2, h6⟩

theorem r_runV {C : String} {b : Nat} {index na maxL d9 mc' ms' : Nat} {y : MethodName} {cb : ByteArray} {ret : Option FieldType} {As : List Value} {G : xG} (hX : Ok SF X cc own d mc ms) (hd : decode cc pc = .ok (.invokevirtual index, 3)) (hKk : KV own index C y cb maxL ret na) (hM : ∀ l, c0_l X = l → MG l y cb maxL ret d9 mc' ms' G (.ref b :: As) wc P) (hG9 : c0_G X = G) (hrecv : ∃ (ci : Nat) (fs : List Value) (T : u_T) (N : Nat), (b, Sum.inr (ci, fs)) ∈ wc ∧ vwCl[ci]? = some (C, T, N)) (hna : As.length = na) (hst : st0 = As.reverse ++ .ref b :: rest) (hrm : (rest.map fun v => v.category).sum ≤ 8) (hd9 : d9 < d) (hmL : maxL ≤ 21) (hk9 : k + mc' ≤ mc) (hn9 : n + ms' ≤ ms) : Run1 X mc' ms' (c0_G X) wc (.ref b :: As) P st0 rest L k n pc := by
  subst hst
  have hM := hM _ rfl
  obtain ⟨p, l, e, R, s, m, args, below, meth, c, nL, G, A, Q⟩ := X
  obtain ⟨hx, hb, hown, hts, hK, hA, hlk, hml, hR, hsf, hNw⟩ := hX
  cases hG9
  obtain ⟨hG, hy⟩ := hKk
  intro H locs ls hS hP hD hF hl
  have hts0 : ∀ w ∈ T0, w.before args s = true := hts
  refine va_runV (cc := cc) (nL := nL) (As := As) (rest := rest) ⟨hx, hb, hml, hown, hts0⟩ (hM H.size) (cwV na hts0 hG rfl rfl rfl hy ⟨by show d9 + 1 ≤ R.frames; omega, by show 8 + (maxL + 11) + 40 * d9 ≤ R.locals; omega⟩) ⟨PreW_blind, ?_, fun U hU hW => ⟨rfl, by rw [hU], by rw [hU]; exact hP, va_K.moved hW.alike hK, hD, hsf.go hS hU hW hF, N0_warm hW hNw⟩⟩ rfl hna hl.1 rfl (lv_room hrm) hd ⟨Nat.le_trans hk9 hR.2.2.1, Nat.le_trans hn9 hR.2.2.2⟩
  obtain ⟨ci, fs, T, N, hb1, hb2⟩ := hrecv
  obtain ⟨q0, hq0⟩ := List.getElem?_of_mem hb1
  exact va_recv hK hP hb2 hq0
theorem r_runS {index na maxL d9 mc' ms' : Nat} {y : MethodName} {cb : ByteArray} {ret : Option FieldType} {As : List Value} {G : xG} (hX : Ok SF X cc own d mc ms) (hd : decode cc pc = .ok (.invokestatic index, 3)) (hKk : KS own index y cb maxL ret na) (hM : ∀ l, c0_l X = l → MG l y cb maxL ret d9 mc' ms' G As wc P) (hG9 : c0_G X = G) (hna : As.length = na) (hst : st0 = As.reverse ++ rest) (hrm : (rest.map fun v => v.category).sum ≤ 8) (hd9 : d9 < d) (hmL : maxL ≤ 21) (hk9 : k + mc' ≤ mc) (hn9 : n + ms' ≤ ms) : Run1 X mc' ms' (c0_G X) wc As P st0 rest L k n pc := by
  subst hst
  have hM := hM _ rfl
  obtain ⟨p, l, e, R, s, m, args, below, meth, c, nL, G, A, Q⟩ := X
  obtain ⟨hx, hb, hown, hts, hK, hA, hlk, hml, hR, hsf, hNw⟩ := hX
  cases hG9
  obtain ⟨hG, hy⟩ := hKk
  intro H locs ls hS hP hD hF hl
  have hts0 : ∀ w ∈ T0, w.before args s = true := hts
  refine va_runS (cc := cc) (nL := nL) (As := As) (rest := rest) ⟨hx, hb, hml, hown, hts0⟩ (hM H.size) (va_cwS na hts0 hG rfl rfl rfl hy ⟨by show d9 + 1 ≤ R.frames; omega, by show 8 + (maxL + 11) + 40 * d9 ≤ R.locals; omega⟩) ⟨PreW_blind, fun U hU hW => ⟨rfl, by rw [hU], by rw [hU]; exact hP, va_K.moved hW.alike hK, hD, hsf.go hS hU hW hF, N0_warm hW hNw⟩⟩ rfl hna hl.1 rfl (lv_room hrm) hd ⟨Nat.le_trans hk9 hR.2.2.1, Nat.le_trans hn9 hR.2.2.2⟩
theorem r_runI {b : Nat} {index na maxL d9 mc' ms' : Nat} {y : MethodName} {cb : ByteArray} {ret : Option FieldType} {As : List Value} {G : xG} (hX : Ok SF X cc own d mc ms) (hd : decode cc pc = .ok (.invokespecial index, 3)) (hKk : KI own index y cb maxL na) (hM : ∀ l, c0_l X = l → MG l y cb maxL none d9 mc' ms' G (.ref b :: As) wc P) (hG9 : c0_G X = G) (hna : As.length = na) (hst : st0 = As.reverse ++ .ref b :: rest) (hrm : (rest.map fun v => v.category).sum ≤ 8) (hd9 : d9 < d) (hmL : maxL ≤ 21) (hk9 : k + mc' ≤ mc) (hn9 : n + ms' ≤ ms) : Run1 X mc' ms' (c0_G X) wc (.ref b :: As) P st0 rest L k n pc := by
  subst hst
  have hM := hM _ rfl
  obtain ⟨p, l, e, R, s, m, args, below, meth, c, nL, G, A, Q⟩ := X
  obtain ⟨hx, hb, hown, hts, hK, hA, hlk, hml, hR, hsf, hNw⟩ := hX
  cases hG9
  obtain ⟨hG, h1, h2, h3, h4, hy⟩ := hKk
  intro H locs ls hS hP hD hF hl
  have hts0 : ∀ w ∈ T0, w.before args s = true := hts
  refine va_runI (cc := cc) (nL := nL) (As := As) (rest := rest) ⟨hx, hb, hml, hown, hts0⟩ (hM H.size) (cwI na hts0 hG rfl rfl rfl (hts0 _ h1) (hts0 _ h2) (hts0 _ h3) h4 hy ⟨by show d9 + 1 ≤ R.frames; omega, by show 8 + (maxL + 11) + 40 * d9 ≤ R.locals; omega⟩) ⟨PreW_blind, fun U hU hW => ⟨rfl, by rw [hU], by rw [hU]; exact hP, va_K.moved hW.alike hK, hD, hsf.go hS hU hW hF, N0_warm hW hNw⟩⟩ rfl hna hl.1 rfl (lv_room hrm) hd ⟨Nat.le_trans hk9 hR.2.2.1, Nat.le_trans hn9 hR.2.2.2⟩
theorem r_runVX {C : String} {b : Nat} {PX : String → va_W → Prop} {index na maxL d9 mc' ms' : Nat} {y : MethodName} {cb : ByteArray} {ret : Option FieldType} {As : List Value} {G : xG} (hX : Ok SF X cc own d mc ms) (hd : decode cc pc = .ok (.invokevirtual index, 3)) (hKk : KV own index C y cb maxL ret na) (hM : ∀ l, c0_l X = l → MX l y cb maxL ret d9 mc' ms' G (.ref b :: As) wc P PX) (hG9 : c0_G X = G) (hrecv : ∃ (ci : Nat) (fs : List Value) (T : u_T) (N : Nat), (b, Sum.inr (ci, fs)) ∈ wc ∧ vwCl[ci]? = some (C, T, N)) (hna : As.length = na) (hst : st0 = As.reverse ++ .ref b :: rest) (hrm : (rest.map fun v => v.category).sum ≤ 8) (hd9 : d9 < d) (hmL : maxL ≤ 21) (hk9 : k + mc' ≤ mc) (hn9 : n + ms' ≤ ms) : Run1X X mc' ms' (c0_G X) wc (.ref b :: As) P PX st0 rest L k n pc := by
  subst hst
  have hM := hM _ rfl
  obtain ⟨p, l, e, R, s, m, args, below, meth, c, nL, G, A, Q⟩ := X
  obtain ⟨hx, hb, hown, hts, hK, hA, hlk, hml, hR, hsf, hNw⟩ := hX
  cases hG9
  obtain ⟨hG, hy⟩ := hKk
  intro H locs ls hS hP hD hF hl
  have hts0 : ∀ w ∈ T0, w.before args s = true := hts
  refine vx_runV (cc := cc) (nL := nL) (As := As) (rest := rest) ⟨hx, hb, hml, hown, hts0⟩ (hM H.size) (cwV na hts0 hG rfl rfl rfl hy ⟨by show d9 + 1 ≤ R.frames; omega, by show 8 + (maxL + 11) + 40 * d9 ≤ R.locals; omega⟩) ⟨PreW_blind, ?_, fun U hU hW => ⟨rfl, by rw [hU], by rw [hU]; exact hP, va_K.moved hW.alike hK, hD, hsf.go hS hU hW hF, N0_warm hW hNw⟩⟩ rfl hna hl.1 rfl (lv_room hrm) hd ⟨Nat.le_trans hk9 hR.2.2.1, Nat.le_trans hn9 hR.2.2.2⟩
  obtain ⟨ci, fs, T, N, hb1, hb2⟩ := hrecv
  obtain ⟨q0, hq0⟩ := List.getElem?_of_mem hb1
  exact va_recv hK hP hb2 hq0
theorem r_runSX {PX : String → va_W → Prop} {index na maxL d9 mc' ms' : Nat} {y : MethodName} {cb : ByteArray} {ret : Option FieldType} {As : List Value} {G : xG} (hX : Ok SF X cc own d mc ms) (hd : decode cc pc = .ok (.invokestatic index, 3)) (hKk : KS own index y cb maxL ret na) (hM : ∀ l, c0_l X = l → MX l y cb maxL ret d9 mc' ms' G As wc P PX) (hG9 : c0_G X = G) (hna : As.length = na) (hst : st0 = As.reverse ++ rest) (hrm : (rest.map fun v => v.category).sum ≤ 8) (hd9 : d9 < d) (hmL : maxL ≤ 21) (hk9 : k + mc' ≤ mc) (hn9 : n + ms' ≤ ms) : Run1X X mc' ms' (c0_G X) wc As P PX st0 rest L k n pc := by
  subst hst
  have hM := hM _ rfl
  obtain ⟨p, l, e, R, s, m, args, below, meth, c, nL, G, A, Q⟩ := X
  obtain ⟨hx, hb, hown, hts, hK, hA, hlk, hml, hR, hsf, hNw⟩ := hX
  cases hG9
  obtain ⟨hG, hy⟩ := hKk
  intro H locs ls hS hP hD hF hl
  have hts0 : ∀ w ∈ T0, w.before args s = true := hts
  refine vx_runS (cc := cc) (nL := nL) (As := As) (rest := rest) ⟨hx, hb, hml, hown, hts0⟩ (hM H.size) (va_cwS na hts0 hG rfl rfl rfl hy ⟨by show d9 + 1 ≤ R.frames; omega, by show 8 + (maxL + 11) + 40 * d9 ≤ R.locals; omega⟩) ⟨PreW_blind, fun U hU hW => ⟨rfl, by rw [hU], by rw [hU]; exact hP, va_K.moved hW.alike hK, hD, hsf.go hS hU hW hF, N0_warm hW hNw⟩⟩ rfl hna hl.1 rfl (lv_room hrm) hd ⟨Nat.le_trans hk9 hR.2.2.1, Nat.le_trans hn9 hR.2.2.2⟩
end VCALLS
