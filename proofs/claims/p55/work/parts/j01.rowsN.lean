/-! ===== more rows: shifts, floats, the law's texts and its script ===== -/
section VROWN
variable {X : xC} {cc : ByteArray} {own : String} {d mc ms : Nat} {k n : Nat} {ws : va_W} {L : List (Option Value)} {st : List Value} {pc pc' : Nat}
theorem r_ishr {x y : Int32} (hX : Ok SF X cc own d mc ms) (hd : decode cc pc = .ok (.ishr, 1)) (hp : pc + 1 = pc') (h : V X k n ws L (.int (x >>> (y &&& 31)) :: st) pc') : V X k n ws L (.int y :: .int x :: st) pc := by
  obtain ⟨p, l, e, R, s, m, args, below, meth, c, nL, G, A, Q⟩ := X
  obtain ⟨hx, hb, hown, hts, hK, hA, hlk, hml, hR, hsf, hNw⟩ := hX
  subst hp
  intro H locs ls hP hD hS hl
  exact lv_ishr hx hb hd (h H locs ls hP hD hS hl)
theorem r_fcmp {x y : UInt32} {op : CmpOp} (hX : Ok SF X cc own d mc ms) (hd : decode cc pc = .ok (.fcmp op, 1)) (hp : pc + 1 = pc') (h : V X k n ws L (.int (Op.cmpValue (FP.fcmp x y) op) :: st) pc') : V X k n ws L (.float y :: .float x :: st) pc := by
  obtain ⟨p, l, e, R, s, m, args, below, meth, c, nL, G, A, Q⟩ := X
  obtain ⟨hx, hb, hown, hts, hK, hA, hlk, hml, hR, hsf, hNw⟩ := hX
  subst hp
  intro H locs ls hP hD hS hl
  exact lv_fcmp hx hb hd (h H locs ls hP hD hS hl)
theorem r_ldcf {v : UInt32} {index : Nat} (hX : Ok SF X cc own d mc ms) (hd : decode cc pc = .ok (.ldc index, 2)) (hc : Cond.constantFloat own index v ∈ T0) (hp : pc + 2 = pc') (h : V X k n ws L (.float v :: st) pc') : V X k n ws L (st) pc := by
  obtain ⟨p, l, e, R, s, m, args, below, meth, c, nL, G, A, Q⟩ := X
  obtain ⟨hx, hb, hown, hts, hK, hA, hlk, hml, hR, hsf, hNw⟩ := hX
  subst hp
  intro H locs ls hP hD hS hl
  exact lv_ldcf hx hb hown (hts _ hc) hd (h H locs ls hP hD hS hl)
theorem r_ldcS {D : va_G} {cy : Nat → ClassId} {sa : Nat → Nat} {index i : Nat} (hX : Ok SF X cc RL d mc ms) (hG : c0_G X = (D, cy, sa)) (hd : decode cc pc = .ok (.ldc index, 2)) (hi : i < 17) (hix : (lsL.getD i (0, "")).1 = index) (hp : pc + 2 = pc') (h : V X k n ws L (.ref (sa (100 + i)) :: st) pc') : V X k n ws L st pc := by
  obtain ⟨p, l, e, R, s, m, args, below, meth, c, nL, G, A, Q⟩ := X
  obtain ⟨hx, hb, hown, hts, hK, hA, hlk, hml, hR, hsf, hNw⟩ := hX
  subst hp hix
  have hG' : G = (D, cy, sa) := hG
  subst hG'
  intro H locs ls hP hD hS hl
  exact va_ldcS hx hb hown (hsf.2.2.2.2.2.2.2.2.2.2.2.1 i hi).2.2.2.2 hd (h H locs ls hP hD hS hl)
theorem sc_le {D : va_G} {cy : Nat → ClassId} {sa : Nat → Nat} (hX : Ok SF X cc own d mc ms) (hG : c0_G X = (D, cy, sa)) : sa 91 ≤ 260 := by
  obtain ⟨p, l, e, R, s, m, args, below, meth, c, nL, G, A, Q⟩ := X
  obtain ⟨hx, hb, hown, hts, hK, hA, hlk, hml, hR, hsf, hNw⟩ := hX
  have hG' : G = (D, cy, sa) := hG
  subst hG'
  exact hsf.2.2.2.2.2.2.2.2.2.2.2.2.1
theorem r_acopyT {index q1 a0 a1 n0 n1 sp dp w9 : Nat} {f g : Nat → Nat} {cA : ClassId} {ws' : va_W} (hX : Ok SF X cc own d mc ms) (hd : decode cc pc = .ok (.invokestatic index, 3)) (hl0 : Cond.methodLink own index arraycopyName ∈ T0) (hT : ∀ (A : Nat → Prop) (U : State) (H : Heap), SF (c0_G X).2.2 A U H → va_T .byte a0 n0 (fun j => .int (nI (f j))) A U H) (hc : c0_cy X 2 = cA)
    (he1 : ws[q1]? = some (a1, Sum.inl (cA, aN n1 g))) (h4 : sp + w9 ≤ n0) (h5 : dp + w9 ≤ n1) (hn0 : n0 < 2147483648) (hn1 : n1 < 2147483648) (hfit : ∀ i, i < w9 → fits .byte (.int (nI (f (sp + i)))) = true)
    (hd9 : 1 ≤ d) (hst : (st.map fun v => v.category).sum ≤ 8) (hws : ws.set q1 (a1, Sum.inl (cA, aN n1 (cpy f sp g dp w9))) = ws') (hp : pc + 3 = pc') (h : V X k n ws' L st pc') : V X k n ws L (.int (nI w9) :: .int (nI dp) :: .ref a1 :: .int (nI sp) :: .ref a0 :: st) pc := by
  obtain ⟨p, l, e, R, s, m, args, below, meth, c, nL, G, A, Q⟩ := X
  obtain ⟨hx, hb, hown, hts, hK, hA, hlk, hml, hR, hsf, hNw⟩ := hX
  subst hp hws hc
  intro H locs ls hP hD hS hl
  have c1 : (nI sp).toNatClampNeg = sp := nI_clamp (by omega)
  have c2 : (nI dp).toNatClampNeg = dp := nI_clamp (by omega)
  have c3 : (nI w9).toNatClampNeg = w9 := nI_clamp (by omega)
  have hnf : nativeFrameWords "java/lang/System" "arraycopy" 5 = 7 := by decide
  refine vk_copyt (D := G.1) (f := fun j => nI (f j)) hx hb (hml.trans hl.1.symm) hown (hts _ hl0) (hts _ (m2 (j := 18) rfl rfl)) (hts _ (m2 (j := 17) rfl rfl)) (hts _ in_System) hK hP hD hS (hT _ _ _ hsf) q1 2 he1 rfl (nI_pos (by omega)) (nI_pos (by omega)) (nI_pos (by omega)) (by rw [c1, c3]; exact h4) (by rw [c2, c3]; exact h5) (fun i hi => by rw [c3] at hi; rw [c1]; exact hfit i hi) (Nat.le_trans hd9 hR.1) ?_ hd (fun H1 locs1 hP hD hS => ?_)
  · have := hR.2.1
    rw [hnf]
    omega
  · rw [c1, c2, c3] at hP hD
    have e9 : va_cpy (fun j => nI (f j)) (fun j => nI (g j)) sp dp w9 = fun j => nI (cpy f sp g dp w9 j) := by
      funext j
      unfold va_cpy cpy
      split <;> rfl
    rw [e9] at hP hD
    exact h H1 locs1 ls hP hD hS hl
theorem r_cloneB {index a m9 k' n' : Nat} {g : Nat → Nat} {cA : ClassId} (hX : Ok SF X cc own d mc ms) (hd : decode cc pc = .ok (.invokevirtual index, 3)) (hl0 : Cond.methodLink own index ⟨"[B", "clone", "()Ljava/lang/Object;"⟩ ∈ T0) (hc : c0_cy X 2 = cA) (q0 : Nat) (he : ws[q0]? = some (a, Sum.inl (cA, aN m9 g))) (hfit : ∀ i, i < m9 → fits .byte (.int (nI (g i))) = true) (hd9 : 1 ≤ d) (hst : (st.map fun v => v.category).sum ≤ 8) (hk : k + 1 = k') (hn : n + m9 = n') (hk2 : k' ≤ mc) (hn2 : n' ≤ ms) (hp : pc + 3 = pc') (h : ∀ q : Nat, V X k' n' (ws ++ [(q, Sum.inl (cA, aN m9 g))]) L (.ref q :: st) pc') : V X k n ws L (.ref a :: st) pc := by
  obtain ⟨p, l, e, R, s, m, args, below, meth, c, nL, G, A, Q⟩ := X
  obtain ⟨hx, hb, hown, hts, hK, hA, hlk, hml, hR, hsf, hNw⟩ := hX
  subst hp hc hk hn
  intro H locs ls hP hD hS hl
  refine va_clone (D := G.1) (x := aN m9 g) hx hb (hml.trans hl.1.symm) hown (hts _ hl0) (hts _ (m4 (j := 121) rfl rfl)) (hts _ (m4 (j := 122) rfl rfl)) (hts _ (m4 (j := 123) rfl rfl)) (hts _ (m4 (j := 124) rfl rfl)) (hNw _ (n4 (j := 125) rfl rfl)) hK hP hD hS hA q0 2 he rfl (hK.2 2 _ rfl).2 ?_ (Nat.le_trans hd9 hR.1) ?_ (Nat.le_trans hk2 hR.2.2.1) (Nat.le_trans hn2 hR.2.2.2) hd (fun q H1 hK1 hP1 hD1 hS1 => h q H1 locs ls hP1 hD1 hS1 hl)
  · intro i v hv
    have hi : i < m9 := by
      have h1 : i < (vp_cell (G.2.1 2) (aN m9 g)).slots.size := (Array.getElem?_eq_some_iff.mp hv).1
      rwa [show (vp_cell (G.2.1 2) (aN m9 g)).slots.size = m9 from arrV_size _ _ _] at h1
    have h2 := arrV_read (G.2.1 2) (fun j => Value.int (nI (g j))) hi
    have h3 : some (Value.int (nI (g i))) = some v := h2.symm.trans hv
    cases h3
    exact hfit i hi
  · have := hR.2.1
    omega
theorem r_castB {index a m9 : Nat} {g : Nat → Nat} {cA : ClassId} (hX : Ok SF X cc own d mc ms) (hd : decode cc pc = .ok (.checkcast index, 3)) (hl0 : Cond.classLink own index "[B" ∈ T0) (hc : c0_cy X 2 = cA) (q0 : Nat) (he : ws[q0]? = some (a, Sum.inl (cA, aN m9 g))) (hp : pc + 3 = pc') (h : V X k n ws L (.ref a :: st) pc') : V X k n ws L (.ref a :: st) pc := by
  obtain ⟨p, l, e, R, s, m, args, below, meth, c, nL, G, A, Q⟩ := X
  obtain ⟨hx, hb, hown, hts, hK, hA, hlk, hml, hR, hsf, hNw⟩ := hX
  subst hp hc
  intro H locs ls hP hD hS hl
  exact va_castA (D := G.1) hx hb hown (hts _ hl0) hP q0 he (hK.2 2 _ rfl).2 hd (h H locs ls hP hD hS hl)
end VROWN
section VROWO
variable {X : xC} {cc : ByteArray} {own : String} {d mc ms : Nat} {k n : Nat} {wc : va_W} {L : List (Option Value)} {st0 rest : List Value} {pc : Nat} {P : Option Value → va_W → Prop}
theorem r_runO {C owner : String} {x : MethodName} {b : Nat} {index na maxL d9 mc' ms' : Nat} {y : MethodName} {cb : ByteArray} {ret : Option FieldType} {As : List Value} {G : xG} (hX : Ok SF X cc own d mc ms) (hd : decode cc pc = .ok (.invokevirtual index, 3)) (hKk : KO own index C owner x y cb maxL ret na) (hM : ∀ l, c0_l X = l → MG l y cb maxL ret d9 mc' ms' G (.ref b :: As) wc P) (hG9 : c0_G X = G) (hrecv : ∃ (ci : Nat) (fs : List Value) (T : u_T) (N : Nat), (b, Sum.inr (ci, fs)) ∈ wc ∧ vwCl[ci]? = some (C, T, N)) (hna : As.length = na) (hst : st0 = As.reverse ++ .ref b :: rest) (hrm : (rest.map fun v => v.category).sum ≤ 8) (hd9 : d9 < d) (hmL : maxL ≤ 21) (hk9 : k + mc' ≤ mc) (hn9 : n + ms' ≤ ms) : Run1 X mc' ms' (c0_G X) wc (.ref b :: As) P st0 rest L k n pc := by
  subst hst
  have hM := hM _ rfl
  obtain ⟨p, l, e, R, s, m, args, below, meth, c, nL, G, A, Q⟩ := X
  obtain ⟨hx, hb, hown, hts, hK, hA, hlk, hml, hR, hsf, hNw⟩ := hX
  cases hG9
  obtain ⟨hG, ⟨b0, m0, r0, h0⟩, hy⟩ := hKk
  intro H locs ls hS hP hD hF hl
  have hts0 : ∀ w ∈ T0, w.before args s = true := hts
  refine va_runU (cc := cc) (nL := nL) (As := As) (rest := rest) ⟨hx, hb, hml, hown, hts0⟩ (hM H.size) (va_cwO na hts0 hG rfl rfl rfl (h0 : Cond.code _ b0 m0 r0 ∈ T0) hy ⟨by show d9 + 1 ≤ R.frames; omega, by show 8 + (maxL + 11) + 40 * d9 ≤ R.locals; omega⟩) ⟨PreW_blind, ?_, fun U hU hW => ⟨rfl, by rw [hU], by rw [hU]; exact hP, va_K.moved hW.alike hK, hD, hsf.go hS hU hW hF, N0_warm hW hNw⟩⟩ rfl hna hl.1 rfl (lv_room hrm) hd ⟨Nat.le_trans hk9 hR.2.2.1, Nat.le_trans hn9 hR.2.2.2⟩
  obtain ⟨ci, fs, T, N, hb1, hb2⟩ := hrecv
  obtain ⟨q0, hq0⟩ := List.getElem?_of_mem hb1
  exact va_recv hK hP hb2 hq0
end VROWO
