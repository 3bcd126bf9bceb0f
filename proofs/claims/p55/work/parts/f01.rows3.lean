/-! ===== rows for the JDK's code, constant objects, other calls ===== -/
theorem in_System : Cond.initialized "java/lang/System" ∈ T0 := m1 (j := 15) rfl rfl
section VROW3
variable {X : xC} {cc : ByteArray} {own : String} {d mc ms : Nat} {k n : Nat} {ws : va_W} {L : List (Option Value)} {st : List Value} {pc pc' : Nat}
theorem r_aload_nN {i : Fin 4} (hX : Ok SF X cc own d mc ms) (hd : decode cc pc = .ok (.aload_n i, 1)) (hl0 : L[(i : Nat)]? = some (some .null)) (hp : pc + 1 = pc') (h : V X k n ws L (.null :: st) pc') : V X k n ws L (st) pc := by
  obtain ⟨p, l, e, R, s, m, args, below, meth, c, nL, G, A, Q⟩ := X
  obtain ⟨hx, hb, hown, hts, hK, hA, hlk, hml, hR, hsf, hNw⟩ := hX
  subst hp
  intro H locs ls hP hD hS hl
  exact lv_aload_nN hx hb hd rfl (hl.2.2 _ _ hl0) (h H locs ls hP hD hS hl)
theorem r_aloadN {i : Nat} (hX : Ok SF X cc own d mc ms) (hd : decode cc pc = .ok (.aload i, 2)) (hl0 : L[i]? = some (some .null)) (hp : pc + 2 = pc') (h : V X k n ws L (.null :: st) pc') : V X k n ws L (st) pc := by
  obtain ⟨p, l, e, R, s, m, args, below, meth, c, nL, G, A, Q⟩ := X
  obtain ⟨hx, hb, hown, hts, hK, hA, hlk, hml, hR, hsf, hNw⟩ := hX
  subst hp
  intro H locs ls hP hD hS hl
  exact lv_aloadN hx hb hd (hl.2.2 _ _ hl0) (h H locs ls hP hD hS hl)
theorem r_astore_nN {i : Fin 4} {L' : List (Option Value)} (hX : Ok SF X cc own d mc ms) (hd : decode cc pc = .ok (.astore_n i, 1)) (hn : ∀ nL : Nat, c0_nL X = nL → i < nL) (ho : lo_ok L i = true) (hL : L.set i (some .null) = L') (hp : pc + 1 = pc') (h : V X k n ws L' st pc') : V X k n ws L (.null :: st) pc := by
  obtain ⟨p, l, e, R, s, m, args, below, meth, c, nL, G, A, Q⟩ := X
  obtain ⟨hx, hb, hown, hts, hK, hA, hlk, hml, hR, hsf, hNw⟩ := hX
  subst hp hL
  intro H locs ls hP hD hS hl
  exact lv_astore_nN hx hb hd rfl (lo_lv hl) (hn _ rfl) rfl (fun ls' h' => h H locs ls' hP hD hS (lo_set1 h' ho))
theorem r_astoreN {i : Nat} {L' : List (Option Value)} (hX : Ok SF X cc own d mc ms) (hd : decode cc pc = .ok (.astore i, 2)) (hn : ∀ nL : Nat, c0_nL X = nL → i < nL) (ho : lo_ok L i = true) (hL : L.set i (some .null) = L') (hp : pc + 2 = pc') (h : V X k n ws L' st pc') : V X k n ws L (.null :: st) pc := by
  obtain ⟨p, l, e, R, s, m, args, below, meth, c, nL, G, A, Q⟩ := X
  obtain ⟨hx, hb, hown, hts, hK, hA, hlk, hml, hR, hsf, hNw⟩ := hX
  subst hp hL
  intro H locs ls hP hD hS hl
  exact lv_astoreN hx hb hd (lo_lv hl) (hn _ rfl) rfl (fun ls' h' => h H locs ls' hP hD hS (lo_set1 h' ho))
theorem r_ifnull {x : Nat} {off : Int} (hX : Ok SF X cc own d mc ms) (hd : decode cc pc = .ok (.ifnull off, 3)) (hp : pc + 3 = pc') (h : V X k n ws L st pc') : V X k n ws L (.ref x :: st) pc := by
  obtain ⟨p, l, e, R, s, m, args, below, meth, c, nL, G, A, Q⟩ := X
  obtain ⟨hx, hb, hown, hts, hK, hA, hlk, hml, hR, hsf, hNw⟩ := hX
  subst hp
  intro H locs ls hP hD hS hl
  exact lv_ifnull hx hb hd (h H locs ls hP hD hS hl)
theorem r_ifnullN {off : Int} {tgt : Nat} (hX : Ok SF X cc own d mc ms) (hd : decode cc pc = .ok (.ifnull off, 3)) (ht : (pc : Int) + off = (tgt : Int)) (h : V X k n ws L st tgt) : V X k n ws L (.null :: st) pc := by
  obtain ⟨p, l, e, R, s, m, args, below, meth, c, nL, G, A, Q⟩ := X
  obtain ⟨hx, hb, hown, hts, hK, hA, hlk, hml, hR, hsf, hNw⟩ := hX
  intro H locs ls hP hD hS hl
  exact lv_ifnullN hx hb hd ht (h H locs ls hP hD hS hl)
theorem r_ifnonnull {x : Nat} {off : Int} {tgt : Nat} (hX : Ok SF X cc own d mc ms) (hd : decode cc pc = .ok (.ifnonnull off, 3)) (ht : (pc : Int) + off = (tgt : Int)) (h : V X k n ws L st tgt) : V X k n ws L (.ref x :: st) pc := by
  obtain ⟨p, l, e, R, s, m, args, below, meth, c, nL, G, A, Q⟩ := X
  obtain ⟨hx, hb, hown, hts, hK, hA, hlk, hml, hR, hsf, hNw⟩ := hX
  intro H locs ls hP hD hS hl
  exact lv_ifnonnull hx hb hd ht (h H locs ls hP hD hS hl)
theorem r_ifnonnullN {off : Int} (hX : Ok SF X cc own d mc ms) (hd : decode cc pc = .ok (.ifnonnull off, 3)) (hp : pc + 3 = pc') (h : V X k n ws L st pc') : V X k n ws L (.null :: st) pc := by
  obtain ⟨p, l, e, R, s, m, args, below, meth, c, nL, G, A, Q⟩ := X
  obtain ⟨hx, hb, hown, hts, hK, hA, hlk, hml, hR, hsf, hNw⟩ := hX
  subst hp
  intro H locs ls hP hD hS hl
  exact lv_ifnonnullN hx hb hd (h H locs ls hP hD hS hl)
theorem r_gets {C n1 d1 : String} {v : Value} {index : Nat} (hX : Ok SF X cc own d mc ms) (hd : decode cc pc = .ok (.getstatic index, 3)) (hZ : ∀ (A : Nat → Prop) (U : State) (H : Heap), SF (c0_G X).2.2 A U H → va_Z C n1 d1 v A U H) (hl0 : Cond.fieldLink own index C n1 d1 ∈ T0) (hp : pc + 3 = pc') (h : V X k n ws L (v :: st) pc') : V X k n ws L (st) pc := by
  obtain ⟨p, l, e, R, s, m, args, below, meth, c, nL, G, A, Q⟩ := X
  obtain ⟨hx, hb, hown, hts, hK, hA, hlk, hml, hR, hsf, hNw⟩ := hX
  subst hp
  intro H locs ls hP hD hS hl
  exact va_gets hx hb (hZ _ _ _ hsf) hS hown (hts _ hl0) (fun _ h9 => h9) hd (h H locs ls hP hD hS hl)
theorem r_getsN {C n1 d1 host : String} {v : Value} {index : Nat} (hX : Ok SF X cc own d mc ms) (hd : decode cc pc = .ok (.getstatic index, 3)) (hZ : ∀ (A : Nat → Prop) (U : State) (H : Heap), SF (c0_G X).2.2 A U H → va_Z C n1 d1 v A U H) (hl0 : Cond.fieldLinkNest own index C n1 d1 host ∈ N0) (hp : pc + 3 = pc') (h : V X k n ws L (v :: st) pc') : V X k n ws L (st) pc := by
  obtain ⟨p, l, e, R, s, m, args, below, meth, c, nL, G, A, Q⟩ := X
  obtain ⟨hx, hb, hown, hts, hK, hA, hlk, hml, hR, hsf, hNw⟩ := hX
  subst hp
  intro H locs ls hP hD hS hl
  exact va_getsN hx hb (hZ _ _ _ hsf) hS hown (va_Nw.use rfl (hNw _ hl0)) (fun _ h9 => h9) hd (h H locs ls hP hD hS hl)
theorem r_getsq {C n1 d1 : String} {index : Nat} (hX : Ok SF X cc own d mc ms) (hd : decode cc pc = .ok (.getstatic index, 3)) (hZ : ∀ (A : Nat → Prop) (U : State) (H : Heap), SF (c0_G X).2.2 A U H → va_Zq C n1 d1 A U H) (hl0 : Cond.fieldLink own index C n1 d1 ∈ T0) (hp : pc + 3 = pc') (h0 : V X k n ws L (.null :: st) pc') (h1 : ∀ q : Nat, V X k n ws L (.ref q :: st) pc') : V X k n ws L st pc := by
  obtain ⟨p, l, e, R, s, m, args, below, meth, c, nL, G, A, Q⟩ := X
  obtain ⟨hx, hb, hown, hts, hK, hA, hlk, hml, hR, hsf, hNw⟩ := hX
  subst hp
  intro H locs ls hP hD hS hl
  rcases hZ _ _ _ hsf with z | ⟨q, z⟩
  · exact va_gets hx hb z hS hown (hts _ hl0) (fun _ h9 => h9) hd (h0 H locs ls hP hD hS hl)
  · exact va_gets hx hb z hS hown (hts _ hl0) (fun _ h9 => h9) hd (h1 q H locs ls hP hD hS hl)
theorem r_tb {q N i : Nat} {f : Nat → Nat} (hX : Ok SF X cc own d mc ms) (hd : decode cc pc = .ok (.baload, 1)) (hT : ∀ (A : Nat → Prop) (U : State) (H : Heap), SF (c0_G X).2.2 A U H → va_T .byte q N (fun j => .int (nI (f j))) A U H) (hi : i < N) (hN : N < 2147483648) (hp : pc + 1 = pc') (h : V X k n ws L (.int (nI (f i)) :: st) pc') : V X k n ws L (.int (nI i) :: .ref q :: st) pc := by
  obtain ⟨p, l, e, R, s, m, args, below, meth, c, nL, G, A, Q⟩ := X
  obtain ⟨hx, hb, hown, hts, hK, hA, hlk, hml, hR, hsf, hNw⟩ := hX
  subst hp
  intro H locs ls hP hD hS hl
  exact va_tb hx hb (hT _ _ _ hsf) hS (vp_in_nI hi hN) (by rw [nI_clamp (by omega)]) hd (h H locs ls hP hD hS hl)
theorem r_ti {q N i : Nat} {f : Nat → Nat} (hX : Ok SF X cc own d mc ms) (hd : decode cc pc = .ok (.iaload, 1)) (hT : ∀ (A : Nat → Prop) (U : State) (H : Heap), SF (c0_G X).2.2 A U H → va_T .int q N (fun j => .int (nI (f j))) A U H) (hi : i < N) (hN : N < 2147483648) (hp : pc + 1 = pc') (h : V X k n ws L (.int (nI (f i)) :: st) pc') : V X k n ws L (.int (nI i) :: .ref q :: st) pc := by
  obtain ⟨p, l, e, R, s, m, args, below, meth, c, nL, G, A, Q⟩ := X
  obtain ⟨hx, hb, hown, hts, hK, hA, hlk, hml, hR, hsf, hNw⟩ := hX
  subst hp
  intro H locs ls hP hD hS hl
  exact va_ti hx hb (hT _ _ _ hsf) hS (vp_in_nI hi hN) (by rw [nI_clamp (by omega)]) hd (h H locs ls hP hD hS hl)
theorem r_tq {C : String} {q N i : Nat} {f : Nat → Nat} (hX : Ok SF X cc own d mc ms) (hd : decode cc pc = .ok (.aaload, 1)) (hT : ∀ (A : Nat → Prop) (U : State) (H : Heap), SF (c0_G X).2.2 A U H → va_T (.object C) q N (fun j => .ref (f j)) A U H) (hi : i < N) (hN : N < 2147483648) (hp : pc + 1 = pc') (h : V X k n ws L (.ref (f i) :: st) pc') : V X k n ws L (.int (nI i) :: .ref q :: st) pc := by
  obtain ⟨p, l, e, R, s, m, args, below, meth, c, nL, G, A, Q⟩ := X
  obtain ⟨hx, hb, hown, hts, hK, hA, hlk, hml, hR, hsf, hNw⟩ := hX
  subst hp
  intro H locs ls hP hD hS hl
  exact vb_tq hx hb (hT _ _ _ hsf) hS (vp_in_nI hi hN) (by rw [nI_clamp (by omega)]) hd (h H locs ls hP hD hS hl)
theorem r_tl {ty : FieldType} {q N : Nat} {f : Nat → Value} (hX : Ok SF X cc own d mc ms) (hd : decode cc pc = .ok (.arraylength, 1)) (hT : ∀ (A : Nat → Prop) (U : State) (H : Heap), SF (c0_G X).2.2 A U H → va_T ty q N f A U H) (hp : pc + 1 = pc') (h : V X k n ws L (.int (nI N) :: st) pc') : V X k n ws L (.ref q :: st) pc := by
  obtain ⟨p, l, e, R, s, m, args, below, meth, c, nL, G, A, Q⟩ := X
  obtain ⟨hx, hb, hown, hts, hK, hA, hlk, hml, hR, hsf, hNw⟩ := hX
  subst hp
  intro H locs ls hP hD hS hl
  exact va_tlen hx hb (hT _ _ _ hsf) hS rfl hd (h H locs ls hP hD hS hl)
theorem r_getO {C n1 d1 : String} {v : Value} {index q : Nat} (hX : Ok SF X cc own d mc ms) (hd : decode cc pc = .ok (.getfield index, 3)) (hO : ∀ (A : Nat → Prop) (U : State) (H : Heap), SF (c0_G X).2.2 A U H → va_OF C n1 d1 v q A U H) (hl0 : Cond.fieldLink own index C n1 d1 ∈ T0) (hp : pc + 3 = pc') (h : V X k n ws L (v :: st) pc') : V X k n ws L (.ref q :: st) pc := by
  obtain ⟨p, l, e, R, s, m, args, below, meth, c, nL, G, A, Q⟩ := X
  obtain ⟨hx, hb, hown, hts, hK, hA, hlk, hml, hR, hsf, hNw⟩ := hX
  subst hp
  intro H locs ls hP hD hS hl
  exact vk_getf hx hb (hO _ _ _ hsf) hS hown (hts _ hl0) (fun _ h9 => h9) hd (h H locs ls hP hD hS hl)
theorem r_getON {C n1 d1 host : String} {v : Value} {index q : Nat} (hX : Ok SF X cc own d mc ms) (hd : decode cc pc = .ok (.getfield index, 3)) (hO : ∀ (A : Nat → Prop) (U : State) (H : Heap), SF (c0_G X).2.2 A U H → va_OF C n1 d1 v q A U H) (hl0 : Cond.fieldLinkNest own index C n1 d1 host ∈ N0) (hp : pc + 3 = pc') (h : V X k n ws L (v :: st) pc') : V X k n ws L (.ref q :: st) pc := by
  obtain ⟨p, l, e, R, s, m, args, below, meth, c, nL, G, A, Q⟩ := X
  obtain ⟨hx, hb, hown, hts, hK, hA, hlk, hml, hR, hsf, hNw⟩ := hX
  subst hp
  intro H locs ls hP hD hS hl
  obtain ⟨cf, k9, fi9, f, cell, h1, h2, h3, h4, h5, h6⟩ := (hO _ _ _ hsf).kept hS.2.1
  exact va_Wgetf hx hb hown (va_Nw.use rfl (hNw _ hl0)) h1 h2 h3 h4 (v := v) h5 rfl rfl hd (h H locs ls hP hD hS hl)
theorem nar_b : ∀ y, y < 128 → vp_nar .byte (nI y) = nI y := by decide +kernel
theorem i2b_128 : ∀ y, y < 128 → (nI y).toInt8.toInt32 = nI y := by decide +kernel
theorem and_255 : ∀ y, y < 256 → nI y &&& nI 255 = nI y := by decide +kernel
theorem r_bald_N {a i n0 : Nat} {g : Nat → Nat} {cA : ClassId} (hX : Ok SF X cc own d mc ms) (hd : decode cc pc = .ok (.baload, 1)) (hc : c0_cy X 2 = cA) (q0 : Nat) (he : ws[q0]? = some (a, Sum.inl (cA, aN n0 g))) (hi : i < n0) (hn : n0 < 2147483648) (hp : pc + 1 = pc') (h : V X k n ws L (.int (nI (g i)) :: st) pc') : V X k n ws L (.int (nI i) :: .ref a :: st) pc := by
  obtain ⟨p, l, e, R, s, m, args, below, meth, c, nL, G, A, Q⟩ := X
  obtain ⟨hx, hb, hown, hts, hK, hA, hlk, hml, hR, hsf, hNw⟩ := hX
  subst hp hc
  intro H locs ls hP hD hS hl
  have hcl : (nI i).toNatClampNeg = i := nI_clamp (by omega)
  exact va_bald (D := G.1) hx hb hK hP q0 2 he rfl (vp_in_nI hi hn) hd (by rw [hcl]; exact h H locs ls hP hD hS hl)
theorem r_bast_N {a i n0 y : Nat} {g : Nat → Nat} {cA : ClassId} {ws' : va_W} (hX : Ok SF X cc own d mc ms) (hd : decode cc pc = .ok (.bastore, 1)) (hc : c0_cy X 2 = cA) (q0 : Nat) (he : ws[q0]? = some (a, Sum.inl (cA, aN n0 g))) (hi : i < n0) (hn : n0 < 2147483648) (hy : y < 128) (hws : ws.set q0 (a, Sum.inl (cA, aN n0 (up1 g i y))) = ws') (hp : pc + 1 = pc') (h : V X k n ws' L st pc') : V X k n ws L (.int (nI y) :: .int (nI i) :: .ref a :: st) pc := by
  obtain ⟨p, l, e, R, s, m, args, below, meth, c, nL, G, A, Q⟩ := X
  obtain ⟨hx, hb, hown, hts, hK, hA, hlk, hml, hR, hsf, hNw⟩ := hX
  subst hp hc hws
  intro H locs ls hP hD hS hl
  have hcl : (nI i).toNatClampNeg = i := nI_clamp (by omega)
  refine va_bast (D := G.1) hx hb hK hP hD hS q0 2 he rfl (vp_in_nI hi hn) hd (fun H1 locs1 hP hD hS => ?_)
  rw [hcl, nar_b y hy, upd_nI] at hP hD
  exact h H1 locs1 ls hP hD hS hl
theorem r_i2b_N {a : Nat} (hX : Ok SF X cc own d mc ms) (hd : decode cc pc = .ok (.i2b, 1)) (ha : a < 128) (hp : pc + 1 = pc') (h : V X k n ws L (.int (nI a) :: st) pc') : V X k n ws L (.int (nI a) :: st) pc := by
  obtain ⟨p, l, e, R, s, m, args, below, meth, c, nL, G, A, Q⟩ := X
  obtain ⟨hx, hb, hown, hts, hK, hA, hlk, hml, hR, hsf, hNw⟩ := hX
  subst hp
  intro H locs ls hP hD hS hl
  exact lv_i2b hx hb hd (i2b_128 a ha) (h H locs ls hP hD hS hl)
theorem r_ishr_0 {a : Nat} (hX : Ok SF X cc own d mc ms) (hd : decode cc pc = .ok (.ishr, 1)) (hp : pc + 1 = pc') (h : V X k n ws L (.int (nI a) :: st) pc') : V X k n ws L (.int (nI 0) :: .int (nI a) :: st) pc := by
  obtain ⟨p, l, e, R, s, m, args, below, meth, c, nL, G, A, Q⟩ := X
  obtain ⟨hx, hb, hown, hts, hK, hA, hlk, hml, hR, hsf, hNw⟩ := hX
  subst hp
  intro H locs ls hP hD hS hl
  refine lv_ishr hx hb hd ?_
  rw [show nI a >>> (nI 0 &&& 31) = nI a from sb_shr0 _]
  exact h H locs ls hP hD hS hl
theorem r_ishl_0 {a : Nat} (hX : Ok SF X cc own d mc ms) (hd : decode cc pc = .ok (.ishl, 1)) (hp : pc + 1 = pc') (h : V X k n ws L (.int (nI a) :: st) pc') : V X k n ws L (.int (nI 0) :: .int (nI a) :: st) pc := by
  obtain ⟨p, l, e, R, s, m, args, below, meth, c, nL, G, A, Q⟩ := X
  obtain ⟨hx, hb, hown, hts, hK, hA, hlk, hml, hR, hsf, hNw⟩ := hX
  subst hp
  intro H locs ls hP hD hS hl
  refine lv_ishl hx hb hd ?_
  rw [show nI a <<< (nI 0 &&& 31) = nI a from sb_shl0 _]
  exact h H locs ls hP hD hS hl
theorem r_iand_255 {a : Nat} (hX : Ok SF X cc own d mc ms) (hd : decode cc pc = .ok (.iand, 1)) (ha : a < 256) (hp : pc + 1 = pc') (h : V X k n ws L (.int (nI a) :: st) pc') : V X k n ws L (.int (nI 255) :: .int (nI a) :: st) pc :=
  r_iand hX hd hp (by rw [and_255 a ha]; exact h)
theorem r_objInit {index x : Nat} (hX : Ok SF X cc own d mc ms) (hd : decode cc pc = .ok (.invokespecial index, 3)) (hl0 : Cond.methodLink own index Lib.objectInit ∈ T0) (hd9 : 1 ≤ d) (hst : (st.map fun v => v.category).sum ≤ 8) (hp : pc + 3 = pc') (h : V X k n ws L st pc') : V X k n ws L (.ref x :: st) pc := by
  obtain ⟨p, l, e, R, s, m, args, below, meth, c, nL, G, A, Q⟩ := X
  obtain ⟨hx, hb, hown, hts, hK, hA, hlk, hml, hR, hsf, hNw⟩ := hX
  subst hp
  intro H locs ls hP hD hS hl
  refine W.objInit hx hb hown (hts _ hl0) (hts _ (m1 (j := 35) rfl rfl)) (hts _ (m1 (j := 36) rfl rfl)) rfl (hl.1.trans hml.symm) rfl hd (Nat.le_trans hd9 hR.1) ?_ (h H locs ls hP hD hS hl)
  have := hR.2.1
  show 2 * 0 + _ + 12 ≤ R.locals
  omega
theorem r_mmax {index a b : Nat} (hX : Ok SF X cc own d mc ms) (hd : decode cc pc = .ok (.invokestatic index, 3)) (hKk : KS own index yJ9_max_7cf53 cJ9_max_7cf53 2 (some .int) 2) (ha : a < 2147483648) (hb9 : b < 2147483648) (hp : pc + 3 = pc') (hst : (st.map fun v => v.category).sum ≤ 8) (hd9 : 1 ≤ d) (hk : k ≤ mc) (hn : n ≤ ms) (h : V X k n ws L (.int (nI (max a b)) :: st) pc') : V X k n ws L (.int (nI b) :: .int (nI a) :: st) pc := by
  obtain ⟨p, l, e, R, s, m, args, below, meth, c, nL, G, A, Q⟩ := X
  obtain ⟨hx, hb, hown, hts, hK, hA, hlk, hml, hR, hsf, hNw⟩ := hX
  subst hp
  intro H locs ls hP hD hS hl
  have hG := hKk.1
  have e9 : (if nI a < nI b then nI b else nI a) = nI (max a b) := by
    by_cases q : a < b
    · rw [if_pos (nI_lt q (by omega)), Nat.max_eq_right (by omega)]
    · rw [if_neg (nI_nlt (by omega) (by omega)), Nat.max_eq_left (by omega)]
  refine va_mmax hx hb (hml.trans hl.1.symm) hown (hts _ (hG _ (List.mem_cons_self)).1) (hts _ (hG _ (List.mem_cons_of_mem _ List.mem_cons_self)).1) (hts _ (hG _ (List.mem_cons_of_mem _ (List.mem_cons_of_mem _ List.mem_cons_self))).1) (hts _ (hG _ (List.mem_cons_of_mem _ (List.mem_cons_of_mem _ (List.mem_cons_of_mem _ List.mem_cons_self)))).1) (Nat.le_trans hd9 hR.1) (by omega) (Nat.le_trans hk hR.2.2.1) (Nat.le_trans hn hR.2.2.2) hd ?_
  rw [e9]
  exact h H locs ls hP hD hS hl
/-- cells left behind -/
theorem V_drop {a b : va_W} (h : V X k n a L st pc) : V X k n (a ++ b) L st pc := by
  obtain ⟨p, l, e, R, s, m, args, below, meth, c, nL, G, A, Q⟩ := X
  intro H locs ls hP hD hS hl
  exact h H locs ls (P_app.mp hP).1 (D_left hD) hS hl
/-- System.arraycopy of numbers, between two arrays of the world -/
theorem r_acopy {index q0 q1 t0 a0 a1 n0 n1 sp dp w9 : Nat} {f g : Nat → Nat} {cA : ClassId} {ty : FieldType} {ws' : va_W} (hX : Ok SF X cc own d mc ms) (hd : decode cc pc = .ok (.invokestatic index, 3)) (hl0 : Cond.methodLink own index arraycopyName ∈ T0) (ht : (tysG (c0_cy X))[t0]? = some (cA, ty)) (hprim : refKind ty = false)
    (he0 : ws[q0]? = some (a0, Sum.inl (cA, aN n0 f))) (he1 : ws[q1]? = some (a1, Sum.inl (cA, aN n1 g))) (h4 : sp + w9 ≤ n0) (h5 : dp + w9 ≤ n1) (hn0 : n0 < 2147483648) (hn1 : n1 < 2147483648) (hfit : ∀ i, i < w9 → fits ty (.int (nI (f (sp + i)))) = true)
    (hd9 : 1 ≤ d) (hst : (st.map fun v => v.category).sum ≤ 8) (hws : ws.set q1 (a1, Sum.inl (cA, aN n1 (cpy f sp g dp w9))) = ws') (hp : pc + 3 = pc') (h : V X k n ws' L st pc') : V X k n ws L (.int (nI w9) :: .int (nI dp) :: .ref a1 :: .int (nI sp) :: .ref a0 :: st) pc := by
  obtain ⟨p, l, e, R, s, m, args, below, meth, c, nL, G, A, Q⟩ := X
  obtain ⟨hx, hb, hown, hts, hK, hA, hlk, hml, hR, hsf, hNw⟩ := hX
  subst hp hws
  intro H locs ls hP hD hS hl
  have c1 : (nI sp).toNatClampNeg = sp := nI_clamp (by omega)
  have c2 : (nI dp).toNatClampNeg = dp := nI_clamp (by omega)
  have c3 : (nI w9).toNatClampNeg = w9 := nI_clamp (by omega)
  have hnf : nativeFrameWords "java/lang/System" "arraycopy" 5 = 7 := by decide
  refine va_copyi (D := G.1) hx hb (hml.trans hl.1.symm) hown (hts _ hl0) (hts _ (m2 (j := 18) rfl rfl)) (hts _ (m2 (j := 17) rfl rfl)) (hts _ in_System) hK hP hD hS q0 q1 t0 t0 he0 he1 ht ht hprim (nI_pos (by omega)) (nI_pos (by omega)) (nI_pos (by omega)) (by rw [c1, c3]; exact h4) (by rw [c2, c3]; exact h5) (fun i hi => by rw [c3] at hi; rw [c1]; exact hfit i hi) (Nat.le_trans hd9 hR.1) ?_ hd (fun H1 locs1 hP hD hS => ?_)
  · have := hR.2.1
    rw [hnf]
    omega
  · rw [c1, c2, c3] at hP hD
    have e9 : va_cpy (fun j => nI (f j)) (fun j => nI (g j)) sp dp w9 = fun j => nI (cpy f sp g dp w9 j) := by
      funext j
      unfold va_cpy cpy
      split <;> rfl
    rw [e9] at hP hD
    exact h H1 locs1 ls hP hD hS hl
end VROW3
/-! a private method of a superclass, called on an object of a subclass -/
section XVP
variable {p : Program} {l : Launch} {e : Env} {R : Room} {s : State} {m : MethodId} {args : Array Value} {below : List Frame} {meth : Method} {c : Code}
theorem xs_callVP {T : State} {locs : List Loc} {cells slots : Nat} (X : Stand p l e R s m args below meth c T locs cells slots) (hexec : p.tables.exec = Jvm.exec) {own : String} {index : Nat} {y : MethodName} {bytes : ByteArray} {maxL : Nat} {ret : Option FieldType}
    (hown : s.vm.findClass own = some m.cls) (hlink : (Cond.methodLink own index y).before args s = true) (hsame : (Cond.sameMethod y.cls y.cls y.name y.desc).before args s = true)
    (howner : y.cls ≠ "java/lang/invoke/MethodHandle" ∧ y.cls ≠ "java/lang/invoke/VarHandle") (hpriv : (Cond.privateMethod y).before args s = true) (hinst : (Cond.instanceMethod y).before args s = true) (hcode : (Cond.code y bytes maxL ret).before args s = true)
    {W : Nat} {Pre : Pt → Array Value → Prop} {Post : Pt → Array Value → Option Value → Pt → Prop} (hK : Back l R p e below s args y 3 W Pre Post)
    {b : Addr} {cellB : Cell} (hcell : T.heap[b]? = some cellB) (hobj : cellB.vm.isStatics = false)
    {g : JFrame} (hg : g.method = m) (hsize : g.locals.size = c.maxLocals) {argsL rest : List Value} (hlen : ∀ sig, parseMethodDescriptor y.desc = some sig → argsL.length = sig.parameters.length)
    (hstack : g.stack = argsL.reverse ++ .ref b :: rest) (hW : 2 * g.monitorRoom + (rest.map fun v => v.category).sum ≤ W) (hdg : decode c.code g.pc = .ok (.invokevirtual index, 3))
    (hpre : ∀ vm₁, s.WarmedH vm₁ → Pre ⟨T.setVm vm₁, locs, cells, slots⟩ (Value.ref b :: argsL).toArray) :
    ∃ (v : Option Value) (vm₁ : Vm) (B : Pt), s.WarmedH vm₁ ∧ Stand p l e R s m args below meth c B.U B.locs B.cells B.slots ∧ Post ⟨T.setVm vm₁, locs, cells, slots⟩ (Value.ref b :: argsL).toArray v B ∧
      ∀ target, Steps p.tables e below (B.U.setTop { g with pc := g.pc + 3, stack := v.toList ++ rest }) target → Steps p.tables e below (T.setTop g) target := by
  obtain ⟨mk, methM, hnamed, hmethM, hstM, habM⟩ := Cond.instanceMethod_spec hinst
  obtain ⟨cn, ck, r1, hcn, hck, hni, hf, hn1⟩ := Cond.sameMethod_found hsame
  have hn : s.methodNamed? ⟨y.cls, y.name, y.desc⟩ = some mk := hnamed
  cases hn.symm.trans hn1
  obtain ⟨methM', cM, hmethM', -, -, -, -, -, -, hsigM⟩ := Cond.code_spec hnamed hcode
  cases hmethM.symm.trans hmethM'
  cases Option.some.inj (hcn.symm.trans (findClass_of_methodNamed hnamed))
  have hselP : selectMethod e.platform s.vm cellB.cls mk = .method mk := selectMethod_private hmethM (Cond.privateMethod_at hpriv mk methM hnamed hmethM)
  obtain ⟨vm₁, X₁, hstep₁⟩ := X.invokevirtualUp hexec hown hlink hsame howner hn hmethM hstM (a := b) (cell := cellB) hcell
    (fun z h => by rw [h] at hobj; cases hobj) hselP hmethM habM hck hni (g := g) hg (argsL := argsL) (rest := rest) (hlen _ hsigM) hstack hdg
  obtain ⟨v, B, X', hpost, hsteps⟩ := hK m meth c ⟨T.setVm vm₁, locs, cells, slots⟩ { g with stack := rest } (.invokevirtual index) mk (Value.ref b :: argsL).toArray X₁ hg hsize hdg hW (X₁.named hnamed) (hpre vm₁ X₁.warmed)
  exact ⟨v, vm₁, B, X₁.warmed, X', hpost, fun target h => hstep₁ _ fun acts => by rw [doInvoke_state]; exact hsteps.trans h⟩
def va_wsP (own : String) (idx : Nat) (y : MethodName) (ws : List Cond) : List Cond := ([.methodLink own idx y, .sameMethod y.cls y.cls y.name y.desc, .instanceMethod y, .initialized y.cls] : List Cond) ++ ws
theorem xs_runVP {y : MethodName} {bytes cc : ByteArray} {maxL nL mc ms n index : Nat} {ret : Option FieldType} {ws ws' : List Cond} {rm : Room} {Pc : Array Value → State → Prop} {Qc : Array Value → State → Outcome → State → Prop} {free : Addr → Prop} {Ts : List Cond} {own : String} {b : Addr} {As rest : List Value} {g : JFrame} {H : Heap} {locs : List Loc} {cells slots : Nat}
    (S : CallFix p m c cc nL s args Ts own) (hM : Met l y ws rm Pc Qc mc ms free) (ht : ∀ w ∈ Ts, w.before args s = true) (hT : GoodIn Ts (va_wsP own index y ws)) (hw : ws = Cond.code y bytes maxL ret :: ws') (hrc : rm.cells = mc) (hrs : rm.slots = ms) (hd : y.cls ≠ "java/lang/invoke/MethodHandle" ∧ y.cls ≠ "java/lang/invoke/VarHandle" ∧ (parseMethodDescriptor y.desc).map (fun d => d.parameters.length) = some n) (hR : rm.frames + 1 ≤ R.frames ∧ 8 + (maxL + 11) + rm.locals ≤ R.locals) (hpriv : (Cond.privateMethod y).before args s = true)
    (hfb : FrameBlind Pc) (hcellB : ∃ cell : Cell, H[b]? = some cell ∧ cell.vm.isStatics = false) (hPc : ∀ U : State, U.heap = H → s.WarmedH U.vm → Pc (Value.ref b :: As).toArray U)
    (hg : g.method = m) (hn : As.length = n) (hsize : g.locals.size = nL) (hstack : g.stack = As.reverse ++ .ref b :: rest) (hW : 2 * g.monitorRoom + (rest.map fun v => v.category).sum ≤ 8) (hdg : decode cc g.pc = .ok (.invokevirtual index, 3)) (hf : cells + mc ≤ R.cells ∧ slots + ms ≤ R.slots) :
    va_Run p l e R s m args below meth c H locs cells slots mc ms g rest (Qc (Value.ref b :: As).toArray) (free) := by
  have ok : ∀ w ∈ va_wsP own index y ws, w.before args s = true := fun w h => ht w (hT w h).1
  have hG : GoodIn Ts ws := fun w h => hT w (by unfold va_wsP; exact List.mem_append_right _ h)
  have hc : Cond.code y bytes maxL ret ∈ ws := by rw [hw]; exact List.mem_cons_self
  have hK : Back l R p e below s args y 3 8 (PreOf R mc ms Pc) (PostOf Qc mc ms free) := back_of (bytes := bytes) (maxL := maxL) (ret := ret) hM hfb hrc hrs hR.1 hR.2 (pay_in ht hG) hc (fun a' U hW => word_at hW (Or.inl (by first | rfl | simp [Cond.onTables, Cond.keeps, Cond.steady])) (ok (.initialized y.cls) (by simp [va_wsP])))
  obtain ⟨hx, hb, hml, ho, -⟩ := S
  obtain ⟨cellB, hcB, hoB⟩ := hcellB
  intro T hT9 X
  obtain ⟨v, vm₁, ⟨U', l2, c2, s2⟩, hW₁, X', ⟨g', mk, t, L, e1, e2, hq, h1, hL, h2, h3⟩, st⟩ := xs_callVP X hx (bytes := bytes) (maxL := maxL) (ret := ret) ho (ok (.methodLink own index y) (by simp [va_wsP])) (ok (.sameMethod y.cls y.cls y.name y.desc) (by simp [va_wsP])) ⟨hd.1, hd.2.1⟩ hpriv (ok (.instanceMethod y) (by simp [va_wsP])) (ht _ (hG _ hc).1) hK (by rw [hT9]; exact hcB) hoB hg (hsize.trans hml.symm) (argsL := As) (rest := rest) (fun sig h => by
      have h2 := hd.2.2
      rw [h] at h2
      exact hn.trans (Option.some.inj h2).symm) hstack hW (by rw [hb]; exact hdg)
    (fun vm₁ hW₁ => ⟨hf.1, hf.2, hPc (T.setVm vm₁) hT9 hW₁⟩)
  dsimp only [Pt.U, Pt.locs, Pt.cells, Pt.slots] at X' e1 e2 h1 h2 h3 st
  subst h1; subst h2; subst h3
  exact ⟨v, (T.setVm vm₁).calling g' mk (Value.ref b :: As).toArray, t, U', L, hT9, X', hL, e1, e2, hq, st⟩
end XVP
section VCALL3
variable {X : xC} {cc : ByteArray} {own : String} {d mc ms : Nat} {k n : Nat} {wc : va_W} {L : List (Option Value)} {st0 rest : List Value} {pc : Nat} {P : Option Value → va_W → Prop}
/-- an inherited method, by the subclass's object -/
def KU (own : String) (index : Nat) (C owner : String) (x y : MethodName) (cc : ByteArray) (maxL : Nat) (ret : Option FieldType) (na : Nat) : Prop := GoodIn T0 (va_wsU own index C owner x y (wO y cc maxL ret)) ∧ y = ⟨owner, x.name, x.desc⟩ ∧ owner ≠ "java/lang/invoke/MethodHandle" ∧ owner ≠ "java/lang/invoke/VarHandle" ∧ (parseMethodDescriptor x.desc).map (fun d => d.parameters.length) = some na
def KP (own : String) (index : Nat) (y : MethodName) (cc : ByteArray) (maxL : Nat) (ret : Option FieldType) (na : Nat) : Prop := GoodIn T0 (va_wsP own index y (wO y cc maxL ret)) ∧ Cond.privateMethod y ∈ N0 ∧ y.cls ≠ "java/lang/invoke/MethodHandle" ∧ y.cls ≠ "java/lang/invoke/VarHandle" ∧ (parseMethodDescriptor y.desc).map (fun d => d.parameters.length) = some na
def KSU (own : String) (index : Nat) (y : MethodName) (cc : ByteArray) (maxL : Nat) (ret : Option FieldType) (na : Nat) : Prop := GoodIn T0 (va_wsSU own index y (wO y cc maxL ret)) ∧ y.name ≠ "<init>" ∧ (parseMethodDescriptor y.desc).map (fun d => d.parameters.length) = some na
def KSN (own : String) (index : Nat) (host : String) (y : MethodName) (cc : ByteArray) (maxL : Nat) (ret : Option FieldType) (na : Nat) : Prop := GoodIn T0 (wO y cc maxL ret) ∧ Cond.methodLinkNest own index y host ∈ N0 ∧ Cond.initialized y.cls ∈ T0 ∧ Cond.static y ∈ T0 ∧ y.cls ≠ "java/lang/invoke/MethodHandle" ∧ y.cls ≠ "java/lang/invoke/VarHandle" ∧ (parseMethodDescriptor y.desc).map (fun d => d.parameters.length) = some na
def KIN (own : String) (index : Nat) (host : String) (y : MethodName) (cc : ByteArray) (maxL : Nat) (na : Nat) : Prop := GoodIn T0 (wO y cc maxL none) ∧ Cond.methodLinkNest own index y host ∈ N0 ∧ Cond.initialized y.cls ∈ T0 ∧ Cond.instanceMethod y ∈ T0 ∧ y.name = "<init>" ∧ y.cls ≠ "java/lang/invoke/MethodHandle" ∧ y.cls ≠ "java/lang/invoke/VarHandle" ∧ (parseMethodDescriptor y.desc).map (fun d => d.parameters.length) = some na
theorem r_runU {C owner : String} {x : MethodName} {b : Nat} {index na maxL d9 mc' ms' : Nat} {y : MethodName} {cb : ByteArray} {ret : Option FieldType} {As : List Value} {G : xG} (hX : Ok SF X cc own d mc ms) (hd : decode cc pc = .ok (.invokevirtual index, 3)) (hKk : KU own index C owner x y cb maxL ret na) (hM : ∀ l, c0_l X = l → MG l y cb maxL ret d9 mc' ms' G (.ref b :: As) wc P) (hG9 : c0_G X = G) (hrecv : ∃ (ci : Nat) (fs : List Value) (T : u_T) (N : Nat), (b, Sum.inr (ci, fs)) ∈ wc ∧ vwCl[ci]? = some (C, T, N)) (hna : As.length = na) (hst : st0 = As.reverse ++ .ref b :: rest) (hrm : (rest.map fun v => v.category).sum ≤ 8) (hd9 : d9 < d) (hmL : maxL ≤ 21) (hk9 : k + mc' ≤ mc) (hn9 : n + ms' ≤ ms) : Run1 X mc' ms' (c0_G X) wc (.ref b :: As) P st0 rest L k n pc := by
  subst hst
  have hM := hM _ rfl
  obtain ⟨p, l, e, R, s, m, args, below, meth, c, nL, G, A, Q⟩ := X
  obtain ⟨hx, hb, hown, hts, hK, hA, hlk, hml, hR, hsf, hNw⟩ := hX
  cases hG9
  obtain ⟨hG, hyx, hy⟩ := hKk
  intro H locs ls hS hP hD hF hl
  have hts0 : ∀ w ∈ T0, w.before args s = true := hts
  refine va_runU (cc := cc) (nL := nL) (As := As) (rest := rest) ⟨hx, hb, hml, hown, hts0⟩ (hM H.size) (va_cwU na hts0 hG rfl rfl rfl hyx hy ⟨by show d9 + 1 ≤ R.frames; omega, by show 8 + (maxL + 11) + 40 * d9 ≤ R.locals; omega⟩) ⟨PreW_blind, ?_, fun U hU hW => ⟨rfl, by rw [hU], by rw [hU]; exact hP, va_K.moved hW.alike hK, hD, hsf.go hS hU hW hF, N0_warm hW hNw⟩⟩ rfl hna hl.1 rfl (lv_room hrm) hd ⟨Nat.le_trans hk9 hR.2.2.1, Nat.le_trans hn9 hR.2.2.2⟩
  obtain ⟨ci, fs, T, N, hb1, hb2⟩ := hrecv
  obtain ⟨q0, hq0⟩ := List.getElem?_of_mem hb1
  exact va_recv hK hP hb2 hq0
theorem r_runUO {C owner : String} {x : MethodName} {b : Nat} {index na maxL d9 mc' ms' : Nat} {y : MethodName} {cb : ByteArray} {ret : Option FieldType} {As : List Value} {G : xG} (hX : Ok SF X cc own d mc ms) (hd : decode cc pc = .ok (.invokevirtual index, 3)) (hKk : KU own index C owner x y cb maxL ret na) (hM : ∀ l, c0_l X = l → MG l y cb maxL ret d9 mc' ms' G (.ref b :: As) wc P) (hG9 : c0_G X = G) (hO : ∀ (A : Nat → Prop) (U : State) (H : Heap), SF (c0_G X).2.2 A U H → va_O C b A U H) (hna : As.length = na) (hst : st0 = As.reverse ++ .ref b :: rest) (hrm : (rest.map fun v => v.category).sum ≤ 8) (hd9 : d9 < d) (hmL : maxL ≤ 21) (hk9 : k + mc' ≤ mc) (hn9 : n + ms' ≤ ms) : Run1 X mc' ms' (c0_G X) wc (.ref b :: As) P st0 rest L k n pc := by
  subst hst
  have hM := hM _ rfl
  obtain ⟨p, l, e, R, s, m, args, below, meth, c, nL, G, A, Q⟩ := X
  obtain ⟨hx, hb, hown, hts, hK, hA, hlk, hml, hR, hsf, hNw⟩ := hX
  
  cases hG9
  obtain ⟨hG, hyx, hy⟩ := hKk
  intro H locs ls hS hP hD hF hl
  have hts0 : ∀ w ∈ T0, w.before args s = true := hts
  refine va_runU (cc := cc) (nL := nL) (As := As) (rest := rest) ⟨hx, hb, hml, hown, hts0⟩ (hM H.size) (va_cwU na hts0 hG rfl rfl rfl hyx hy ⟨by show d9 + 1 ≤ R.frames; omega, by show 8 + (maxL + 11) + 40 * d9 ≤ R.locals; omega⟩) ⟨PreW_blind, ?_, fun U hU hW => ⟨rfl, by rw [hU], by rw [hU]; exact hP, va_K.moved hW.alike hK, hD, hsf.go hS hU hW hF, N0_warm hW hNw⟩⟩ rfl hna hl.1 rfl (lv_room hrm) hd ⟨Nat.le_trans hk9 hR.2.2.1, Nat.le_trans hn9 hR.2.2.2⟩
  obtain ⟨cell, q1, q2, q3, -⟩ := (hO _ _ _ hsf).kept hS.2.1
  exact ⟨cell, q1, q2, q3⟩
theorem r_runVO {C : String} {b : Nat} {index na maxL d9 mc' ms' : Nat} {y : MethodName} {cb : ByteArray} {ret : Option FieldType} {As : List Value} {G : xG} (hX : Ok SF X cc own d mc ms) (hd : decode cc pc = .ok (.invokevirtual index, 3)) (hKk : KV own index C y cb maxL ret na) (hM : ∀ l, c0_l X = l → MG l y cb maxL ret d9 mc' ms' G (.ref b :: As) wc P) (hG9 : c0_G X = G) (hO : ∀ (A : Nat → Prop) (U : State) (H : Heap), SF (c0_G X).2.2 A U H → va_O C b A U H) (hna : As.length = na) (hst : st0 = As.reverse ++ .ref b :: rest) (hrm : (rest.map fun v => v.category).sum ≤ 8) (hd9 : d9 < d) (hmL : maxL ≤ 21) (hk9 : k + mc' ≤ mc) (hn9 : n + ms' ≤ ms) : Run1 X mc' ms' (c0_G X) wc (.ref b :: As) P st0 rest L k n pc := by
  subst hst
  have hM := hM _ rfl
  obtain ⟨p, l, e, R, s, m, args, below, meth, c, nL, G, A, Q⟩ := X
  obtain ⟨hx, hb, hown, hts, hK, hA, hlk, hml, hR, hsf, hNw⟩ := hX
  cases hG9
  obtain ⟨hG, hy⟩ := hKk
  intro H locs ls hS hP hD hF hl
  have hts0 : ∀ w ∈ T0, w.before args s = true := hts
  refine va_runV (cc := cc) (nL := nL) (As := As) (rest := rest) ⟨hx, hb, hml, hown, hts0⟩ (hM H.size) (cwV na hts0 hG rfl rfl rfl hy ⟨by show d9 + 1 ≤ R.frames; omega, by show 8 + (maxL + 11) + 40 * d9 ≤ R.locals; omega⟩) ⟨PreW_blind, ?_, fun U hU hW => ⟨rfl, by rw [hU], by rw [hU]; exact hP, va_K.moved hW.alike hK, hD, hsf.go hS hU hW hF, N0_warm hW hNw⟩⟩ rfl hna hl.1 rfl (lv_room hrm) hd ⟨Nat.le_trans hk9 hR.2.2.1, Nat.le_trans hn9 hR.2.2.2⟩
  obtain ⟨cell, q1, q2, q3, -⟩ := (hO _ _ _ hsf).kept hS.2.1
  exact ⟨cell, q1, q2, q3⟩
theorem r_runP {C : String} {b : Nat} {index na maxL d9 mc' ms' : Nat} {y : MethodName} {cb : ByteArray} {ret : Option FieldType} {As : List Value} {G : xG} (hX : Ok SF X cc own d mc ms) (hd : decode cc pc = .ok (.invokevirtual index, 3)) (hKk : KP own index y cb maxL ret na) (hM : ∀ l, c0_l X = l → MG l y cb maxL ret d9 mc' ms' G (.ref b :: As) wc P) (hG9 : c0_G X = G) (hrecv : ∃ (ci : Nat) (fs : List Value) (T : u_T) (N : Nat), (b, Sum.inr (ci, fs)) ∈ wc ∧ vwCl[ci]? = some (C, T, N)) (hna : As.length = na) (hst : st0 = As.reverse ++ .ref b :: rest) (hrm : (rest.map fun v => v.category).sum ≤ 8) (hd9 : d9 < d) (hmL : maxL ≤ 21) (hk9 : k + mc' ≤ mc) (hn9 : n + ms' ≤ ms) : Run1 X mc' ms' (c0_G X) wc (.ref b :: As) P st0 rest L k n pc := by
  subst hst
  have hM := hM _ rfl
  obtain ⟨p, l, e, R, s, m, args, below, meth, c, nL, G, A, Q⟩ := X
  obtain ⟨hx, hb, hown, hts, hK, hA, hlk, hml, hR, hsf, hNw⟩ := hX
  cases hG9
  obtain ⟨hG, hpr, hy⟩ := hKk
  intro H locs ls hS hP hD hF hl
  have hts0 : ∀ w ∈ T0, w.before args s = true := hts
  obtain ⟨ci, fs, T, N, hb1, hb2⟩ := hrecv
  obtain ⟨q0, hq0⟩ := List.getElem?_of_mem hb1
  obtain ⟨cell, q1, q2, q3⟩ := va_recv hK hP hb2 hq0
  exact xs_runVP (cc := cc) (nL := nL) (As := As) (rest := rest) ⟨hx, hb, hml, hown, hts0⟩ (hM H.size) hts0 hG rfl rfl rfl hy ⟨by show d9 + 1 ≤ R.frames; omega, by show 8 + (maxL + 11) + 40 * d9 ≤ R.locals; omega⟩ (va_Nw.use rfl (hNw _ hpr)) PreW_blind ⟨cell, q1, q2⟩ (fun U hU hW => ⟨rfl, by rw [hU], by rw [hU]; exact hP, va_K.moved hW.alike hK, hD, hsf.go hS hU hW hF, N0_warm hW hNw⟩) rfl hna hl.1 rfl (lv_room hrm) hd ⟨Nat.le_trans hk9 hR.2.2.1, Nat.le_trans hn9 hR.2.2.2⟩
theorem r_runSU {C : String} {b : Nat} {index na maxL d9 mc' ms' : Nat} {y : MethodName} {cb : ByteArray} {ret : Option FieldType} {As : List Value} {G : xG} (hX : Ok SF X cc own d mc ms) (hd : decode cc pc = .ok (.invokespecial index, 3)) (hKk : KSU own index y cb maxL ret na) (hM : ∀ l, c0_l X = l → MG l y cb maxL ret d9 mc' ms' G (.ref b :: As) wc P) (hG9 : c0_G X = G) (hrecv : ∃ (ci : Nat) (fs : List Value) (T : u_T) (N : Nat), (b, Sum.inr (ci, fs)) ∈ wc ∧ vwCl[ci]? = some (C, T, N)) (hna : As.length = na) (hst : st0 = As.reverse ++ .ref b :: rest) (hrm : (rest.map fun v => v.category).sum ≤ 8) (hd9 : d9 < d) (hmL : maxL ≤ 21) (hk9 : k + mc' ≤ mc) (hn9 : n + ms' ≤ ms) : Run1 X mc' ms' (c0_G X) wc (.ref b :: As) P st0 rest L k n pc := by
  subst hst
  have hM := hM _ rfl
  obtain ⟨p, l, e, R, s, m, args, below, meth, c, nL, G, A, Q⟩ := X
  obtain ⟨hx, hb, hown, hts, hK, hA, hlk, hml, hR, hsf, hNw⟩ := hX
  cases hG9
  obtain ⟨hG, hy⟩ := hKk
  intro H locs ls hS hP hD hF hl
  have hts0 : ∀ w ∈ T0, w.before args s = true := hts
  obtain ⟨ci, fs, T, N, hb1, hb2⟩ := hrecv
  obtain ⟨q0, hq0⟩ := List.getElem?_of_mem hb1
  refine va_runSU (hK.1 ci _ hb2).2 (cc := cc) (nL := nL) (As := As) (rest := rest) ⟨hx, hb, hml, hown, hts0⟩ (hM H.size) (va_cwSU na hts0 hG rfl rfl rfl hy ⟨by show d9 + 1 ≤ R.frames; omega, by show 8 + (maxL + 11) + 40 * d9 ≤ R.locals; omega⟩) ⟨PreW_blind, ?_, fun U hU hW => ⟨rfl, by rw [hU], by rw [hU]; exact hP, va_K.moved hW.alike hK, hD, hsf.go hS hU hW hF, N0_warm hW hNw⟩⟩ rfl hna hl.1 rfl (lv_room hrm) hd ⟨Nat.le_trans hk9 hR.2.2.1, Nat.le_trans hn9 hR.2.2.2⟩
  exact va_recv hK hP hb2 hq0
theorem r_runSN {host : String} {index na maxL d9 mc' ms' : Nat} {y : MethodName} {cb : ByteArray} {ret : Option FieldType} {As : List Value} {G : xG} (hX : Ok SF X cc own d mc ms) (hd : decode cc pc = .ok (.invokestatic index, 3)) (hKk : KSN own index host y cb maxL ret na) (hM : ∀ l, c0_l X = l → MG l y cb maxL ret d9 mc' ms' G As wc P) (hG9 : c0_G X = G) (hna : As.length = na) (hst : st0 = As.reverse ++ rest) (hrm : (rest.map fun v => v.category).sum ≤ 8) (hd9 : d9 < d) (hmL : maxL ≤ 21) (hk9 : k + mc' ≤ mc) (hn9 : n + ms' ≤ ms) : Run1 X mc' ms' (c0_G X) wc As P st0 rest L k n pc := by
  subst hst
  have hM := hM _ rfl
  obtain ⟨p, l, e, R, s, m, args, below, meth, c, nL, G, A, Q⟩ := X
  obtain ⟨hx, hb, hown, hts, hK, hA, hlk, hml, hR, hsf, hNw⟩ := hX
  cases hG9
  obtain ⟨hG, h1, h2, h3, hy⟩ := hKk
  intro H locs ls hS hP hD hF hl
  have hts0 : ∀ w ∈ T0, w.before args s = true := hts
  exact va_runSN (cc := cc) (nL := nL) (As := As) (rest := rest) ⟨hx, hb, hml, hown, hts0⟩ (hM H.size) ⟨va_cnB na hts0 hG rfl rfl rfl (hNw _ h1) (hts0 _ h2) hy ⟨by show d9 + 1 ≤ R.frames; omega, by show 8 + (maxL + 11) + 40 * d9 ≤ R.locals; omega⟩, hts0 _ h3, trivial⟩ ⟨PreW_blind, fun U hU hW => ⟨rfl, by rw [hU], by rw [hU]; exact hP, va_K.moved hW.alike hK, hD, hsf.go hS hU hW hF, N0_warm hW hNw⟩⟩ rfl hna hl.1 rfl (lv_room hrm) hd ⟨Nat.le_trans hk9 hR.2.2.1, Nat.le_trans hn9 hR.2.2.2⟩
theorem r_runIN {host : String} {b : Nat} {index na maxL d9 mc' ms' : Nat} {y : MethodName} {cb : ByteArray} {As : List Value} {G : xG} (hX : Ok SF X cc own d mc ms) (hd : decode cc pc = .ok (.invokespecial index, 3)) (hKk : KIN own index host y cb maxL na) (hM : ∀ l, c0_l X = l → MG l y cb maxL none d9 mc' ms' G (.ref b :: As) wc P) (hG9 : c0_G X = G) (hna : As.length = na) (hst : st0 = As.reverse ++ .ref b :: rest) (hrm : (rest.map fun v => v.category).sum ≤ 8) (hd9 : d9 < d) (hmL : maxL ≤ 21) (hk9 : k + mc' ≤ mc) (hn9 : n + ms' ≤ ms) : Run1 X mc' ms' (c0_G X) wc (.ref b :: As) P st0 rest L k n pc := by
  subst hst
  have hM := hM _ rfl
  obtain ⟨p, l, e, R, s, m, args, below, meth, c, nL, G, A, Q⟩ := X
  obtain ⟨hx, hb, hown, hts, hK, hA, hlk, hml, hR, hsf, hNw⟩ := hX
  cases hG9
  obtain ⟨hG, h1, h2, h3, h4, hy⟩ := hKk
  intro H locs ls hS hP hD hF hl
  have hts0 : ∀ w ∈ T0, w.before args s = true := hts
  exact va_runIN (cc := cc) (nL := nL) (As := As) (rest := rest) ⟨hx, hb, hml, hown, hts0⟩ (hM H.size) ⟨va_cnB na hts0 hG rfl rfl rfl (hNw _ h1) (hts0 _ h2) hy ⟨by show d9 + 1 ≤ R.frames; omega, by show 8 + (maxL + 11) + 40 * d9 ≤ R.locals; omega⟩, h4, hts0 _ h3⟩ ⟨PreW_blind, fun U hU hW => ⟨rfl, by rw [hU], by rw [hU]; exact hP, va_K.moved hW.alike hK, hD, hsf.go hS hU hW hF, N0_warm hW hNw⟩⟩ rfl hna hl.1 rfl (lv_room hrm) hd ⟨Nat.le_trans hk9 hR.2.2.1, Nat.le_trans hn9 hR.2.2.2⟩
end VCALL3
section XSBW
variable {p : Program} {l : Launch} {e : Env} {R : Room} {s : State} {m : MethodId} {args : Array Value} {below : List Frame} {meth : Method} {c : Code} {H : Heap} {locs : List Loc} {cells slots : Nat} {Qc : Array Value → State → Outcome → State → Prop} {XC : String → State → State → Prop} {free : Addr → Prop} {ls : Array Slot} {rest : List Value}
theorem xs_throwW {cc : ByteArray} {pc : Nat} (hexec : p.tables.exec = Jvm.exec) (hb : c.code = cc) (hl : l.stackTraces = false) {own cls text : String} {names : List String} {ik is ic ix mc ms sa : Nat} {rx : ByteArray} (x0 : decode rx 0 = .ok (.aload_n 0, 1)) (x1 : decode rx 1 = .ok (.aload_n 1, 1)) (x2 : decode rx 2 = .ok (.invokespecial ix, 3)) (x5 : decode rx 5 = .ok (.return_, 1)) {A : Nat → Prop}
    (hown : s.vm.findClass own = some m.cls) (hcls : Bundle.fit cls = true) (hnames : ∀ n ∈ names, Bundle.fit n = true)
    (hk : (Cond.classLink own ik cls).before args s = true) (hini : (Cond.initialized cls).before args s = true) (hstr : vk_R own is text sa s) (hat : ∀ w ∈ xs_at own ic cls ix rx names, w.before args s = true)
    (hgood : ∀ w ∈ Cond.classLink own ik cls :: Cond.initialized cls :: xs_at own ic cls ix rx names, vx_ot w = true)
    (hU : vx_Zq Bundle.tN "UNASSIGNED_STACK" Bundle.steD A s s.heap) (hN : vx_Zq Bundle.tN "SUPPRESSED_SENTINEL" Bundle.listD A s s.heap) (hS : va_S A s.heap H locs) (hsize : ls.size = c.maxLocals)
    (d0 : decode cc pc = .ok (.new ik, 3)) (d3 : decode cc (pc + 3) = .ok (.dup, 1)) (d4 : decode cc (pc + 4) = .ok (.ldc_w is, 3)) (d6 : decode cc (pc + 7) = .ok (.invokespecial ic, 3)) (d9 : decode cc (pc + 10) = .ok (.athrow, 1))
    (hout : ∀ x ∈ c.exceptionTable.toList, covers x (pc + 10) = false)
    (hRframes : names.length + 3 < R.frames) (hRlocals : (rest.map fun v => v.category).sum + (13 * (names.length + 1) + 43) ≤ R.locals) (hRcells : cells + 1 ≤ R.cells) (hRslots : slots + 6 ≤ R.slots) (hlocks : meth.locks = false)
    (hx : ∀ t : State, s.vm.Alike t.vm → H.size ≤ t.heap.size → (∀ q : Nat, q < H.size → t.heap[q]? = H[q]?) → XC cls s t)
    (hf : ∀ z ∈ locs, free z.base) (hc : cells + 1 ≤ mc) (hs : slots + 6 ≤ ms) :
    W p l e R s m args below meth c H locs cells slots (vx_MQ below Qc XC args s mc ms free) (F0 m pc ls rest) := by
  intro T hT X
  have htr : e.platform.stackTraces = false := (show e.platform.stackTraces = l.stackTraces by rw [X.admits.platform]).trans hl
  have Y := vx_rebase X (R' := { frames := R.frames, locals := R.locals, cells := 1, slots := 6 }) (Nat.le_refl _) (Nat.le_refl _) hRcells hRslots
  obtain ⟨s', hA⟩ : ∃ z, z = (T.setVm s.vm).setFrames (.invoking m args :: below) := ⟨_, rfl⟩
  rw [← hA] at Y
  have hvm : s'.vm = s.vm := by rw [hA]; rfl
  have hhp : s'.heap = H := by rw [hA]; exact hT
  have hW0 : s.WarmedH s'.vm := by rw [hvm]; exact State.WarmedH.refl s
  have hat' : ∀ w ∈ xs_at own ic cls ix rx names, w.before args s' = true := fun w hw => vx_ot_at hW0 hvm.symm (hgood w (List.mem_cons_of_mem _ (List.mem_cons_of_mem _ hw))) (hat w hw)
  have hk' : (Cond.classLink own ik cls).before args s' = true := vx_ot_at hW0 hvm.symm (hgood _ List.mem_cons_self) hk
  have hini' : (Cond.initialized cls).before args s' = true := vx_ot_at hW0 hvm.symm (hgood _ (List.mem_cons_of_mem _ List.mem_cons_self)) hini
  have hU' : vx_Zq Bundle.tN "UNASSIGNED_STACK" Bundle.steD A s' s'.heap := by rw [hhp]; exact vx_Zq.moved hW0.alike (hU.kept hS.2.1)
  have hN' : vx_Zq Bundle.tN "SUPPRESSED_SENTINEL" Bundle.listD A s' s'.heap := by rw [hhp]; exact vx_Zq.moved hW0.alike (hN.kept hS.2.1)
  have h : ∀ w ∈ Bundle.ownAtomsX own ic cls ix rx names, w.before args s' = true := vx_own hat' (vx_isRefq hU'.1) (vx_isRefq hN'.1) hU'.2.word hN'.2.word
  have hown' : s'.vm.findClass own = some m.cls := by rw [hvm]; exact hown
  have hins : (Cond.instantiable cls 6).before args s' = true := h _ (by simp [Bundle.ownAtomsX])
  obtain ⟨vm₁, cX, kX, hfX, hkX, -, -, X₁, st1⟩ := Y.newCold hexec (own := own) (C := cls) (index := ik) (n := 6) hown' hk' hins hini'
    (g := F0 m pc ls rest) rfl (by rw [hb]; exact d0) (Nat.le_refl _) (Nat.le_refl _)
  generalize hT1 : (T.setVm vm₁).pushCell { cls := cX, slots := kX.instanceTypes.map defaultValue, vm := .none } = T1 at X₁ st1
  have hcat : (Value.ref T.heap.size).category = 1 := rfl
  have hcellA : T1.heap[T.heap.size]? = some (freshCell cX kX) := by rw [← hT1]; exact State.heap_pushCell_size _ _
  have d3' : decode c.code (pc + 3) = .ok (.dup, 1) := by rw [hb]; exact d3
  have d4' : decode c.code (pc + 4) = .ok (.ldc_w is, 3) := by rw [hb]; exact d4
  have hstr' : vk_R own is text sa s' := vk_R.warm hW0 hstr
  obtain ⟨U, hsteps, hrun, hend, hW, hsame, ce, hce, hO, hOv⟩ := xs_ctorThrow X₁ hexec htr (own := own) (cls := cls) (names := names) (ic := ic) x0 x1 x2 x5 hown' hcls hnames h (fun x hx => nomatch hx) hfX hkX hcellA (by rw [hhp, hT]; exact Nat.le_refl _) (msg := .ref sa) rfl
    (g := { method := m, pc := pc + 7, locals := ls, stack := .ref sa :: .ref T.heap.size :: .ref T.heap.size :: rest, locked := none }) rfl hsize rfl rfl (rest := rest) rfl
    (by rw [hb]; exact d6) (by rw [hb]; exact d9) hout hRframes (by simp only [List.map_cons, List.sum_cons, hcat]; omega) hlocks
  obtain ⟨f1, f2⟩ := vx_frame hsame
  rw [hhp] at f1 f2
  have hWs : s.WarmedH U.vm := State.WarmedH.trans hW0 hW
  have hcl : s.vm.findClass cls = some ce.cls := by
    rw [hvm] at hO
    exact hO
  have hall : s.sameButNew ({ U with vm := s.vm } : State) locs mc ms := by
    subst hA
    obtain ⟨e1, e2⟩ := hsame
    rw [State.setFrames_setFrames] at e1
    have h2 : (T.setVm s.vm).sameButNew ({ U with vm := s.vm } : State) [] (0 + 1) (0 + 6) := ⟨e1, e2⟩
    have h3 := X.same.trans h2
    rw [List.append_nil] at h3
    exact h3.mono hc hs
  refine ⟨U, ?_, .threw T.heap.size, hrun, hend, Or.inr ⟨T.heap.size, rfl, cls, ce, locs, hx U hWs.alike f1 (fun q hq => f2 q hq (fun z hz => nomatch hz)), hce, hOv, hcl, hWs, hall, hf⟩⟩
  refine st1 _ ?_
  show Steps p.tables e below (T1.setTop { method := m, pc := pc + 3, locals := ls, stack := .ref T.heap.size :: rest, locked := none }) _
  jvm_step X₁.here [X₁.here.top, hexec, d3', Value.category]
  exact X₁.ldcStringW hexec (own := own) (text := text) (index := is) (a := sa) hown' hstr'.1 hstr'.2
    (g := { method := m, pc := pc + 4, locals := ls, stack := .ref T.heap.size :: .ref T.heap.size :: rest, locked := none }) rfl d4' _ hsteps
end XSBW
section XSCW
variable {X : xC} {cc : ByteArray} {d mc ms : Nat} {k n : Nat} {ws ws0 : va_W} {L : List (Option Value)} {st : List Value} {pc : Nat} {PX : String → va_W → Prop}
theorem r_throwW {ik is ic ix : Nat} {rx : ByteArray} {cls : String} (hX : Ok SF X cc "BowFoundry" d mc ms) (hO : Outs X mc ms ws0 PX) (hT : TH "BowFoundry" ik ic ix rx cls) (i : Nat) (hi : i < 17) (his : (msgL.getD i (0, "")).1 = is)
    (d0 : decode cc pc = .ok (.new ik, 3)) (d3 : decode cc (pc + 3) = .ok (.dup, 1)) (d4 : decode cc (pc + 4) = .ok (.ldc_w is, 3)) (d6 : decode cc (pc + 7) = .ok (.invokespecial ic, 3)) (d9 : decode cc (pc + 10) = .ok (.athrow, 1))
    (hd : 6 ≤ d) (hst : (st.map fun v => v.category).sum ≤ 8) (hP : PX cls ws) (hk : k + 1 ≤ mc) (hn : n + 6 ≤ ms) : V X k n ws L st pc := by
  obtain ⟨p, l, e, R, s, m, args, below, meth, c, nL, G, A, Q⟩ := X
  obtain ⟨hx, hb, hown, hts, hK, hA, hlk, hml, hR, hsf, hNw⟩ := hX
  obtain ⟨hstt, hTb, rfl, Qc, rfl⟩ := hO
  obtain ⟨t1, t2, t3, t4, t5, t6, t7, t8, t9⟩ := hT
  intro H locs ls hP1 hD hS hl
  have hmsg := hsf.2.2.2.2.2.2.2.2.2.1 i hi
  rw [his] at hmsg
  exact xs_throwW (names := ["java/lang/RuntimeException", "java/lang/Exception"]) hx hb hstt t2 t3 t4 t5 hown t1 (by decide +kernel) (hts _ t6) (hts _ t7) hmsg (fun w hw => (t8 w hw).elim (fun h => hts _ h) (fun h => va_Nw.use h.2 (hNw _ h.1))) t9 hsf.2.2.2.2.2.2.1 hsf.2.2.2.2.2.2.2.1 hS (hl.1.trans hml.symm) d0 d3 d4 d6 d9 (fun x hx => by rw [hTb] at hx; nomatch hx)
    (by show 2 + 3 < R.frames; omega) (by show _ + (13 * (2 + 1) + 43) ≤ R.locals; omega) (Nat.le_trans hk hR.2.2.1) (Nat.le_trans hn hR.2.2.2) hlk
    (fun t hal h1 h2 => ⟨⟨ws, hP, hP1.kept (fun k q hq => h2 q.1 ((hP1 k q hq).lt)), va_K.moved hal hK, hD⟩, ⟨Nat.le_trans hS.1 h1, fun q h3 h4 => (h2 q (Nat.lt_of_lt_of_le h3 hS.1)).trans (hS.2.1 q h3 h4)⟩⟩) hS.2.2 hk hn
end XSCW
