/-! ===== more rows ===== -/
section VROW
variable {X : xC} {cc : ByteArray} {own : String} {d mc ms : Nat} {k n : Nat} {ws : va_W} {L : List (Option Value)} {st : List Value} {pc pc' : Nat}
theorem r_iald_I {a i n0 : Nat} {f : Nat → Int32} {cA : ClassId} (hX : Ok SF X cc own d mc ms) (hd : decode cc pc = .ok (.iaload, 1)) (hc : c0_cy X 0 = cA) (q0 : Nat) (he : ws[q0]? = some (a, Sum.inl (cA, aI n0 f))) (hi : i < n0) (hn : n0 < 2147483648) (hp : pc + 1 = pc') (h : V X k n ws L (.int (f i) :: st) pc') : V X k n ws L (.int (nI i) :: .ref a :: st) pc := r_iald hX hd hc (List.mem_of_getElem? he) hi hn rfl hp h
theorem upd_I {f : Nat → Int32} {i : Nat} {x : Int32} : upd f i x = up1 f i x := rfl
theorem r_iast_I {a i n0 : Nat} {f : Nat → Int32} {x : Int32} {cA : ClassId} {ws' : va_W} (hX : Ok SF X cc own d mc ms) (hd : decode cc pc = .ok (.iastore, 1)) (hc : c0_cy X 0 = cA) (q0 : Nat) (he : ws[q0]? = some (a, Sum.inl (cA, aI n0 f))) (hi : i < n0) (hn : n0 < 2147483648) (hws : ws.set q0 (a, Sum.inl (cA, aI n0 (up1 f i x))) = ws') (hp : pc + 1 = pc') (h : V X k n ws' L st pc') : V X k n ws L (.int x :: .int (nI i) :: .ref a :: st) pc :=
  r_iast hX hd hc q0 he hi hn (by rw [upd_I]; exact hws) hp h
theorem nar_c {y : Nat} (h : y < 65536) : vp_nar .char (nI y) = nI y := by
  unfold vp_nar
  rw [(pk_charN h).1]
theorem r_i2d {x : Int32} (hX : Ok SF X cc own d mc ms) (hd : decode cc pc = .ok (.i2d, 1)) (hp : pc + 1 = pc') (h : V X k n ws L (.double (FP.i2d x) :: st) pc') : V X k n ws L (.int x :: st) pc := by
  obtain ⟨p, l, e, R, s, m, args, below, meth, c, nL, G, A, Q⟩ := X
  obtain ⟨hx, hb, hown, hts, hK, hA, hlk, hml, hR, hsf, hNw⟩ := hX
  subst hp
  intro H locs ls hP hD hS hl
  exact lv_i2d hx hb hd (h H locs ls hP hD hS hl)
theorem r_i2f {x : Int32} (hX : Ok SF X cc own d mc ms) (hd : decode cc pc = .ok (.i2f, 1)) (hp : pc + 1 = pc') (h : V X k n ws L (.float (FP.i2f x) :: st) pc') : V X k n ws L (.int x :: st) pc := by
  obtain ⟨p, l, e, R, s, m, args, below, meth, c, nL, G, A, Q⟩ := X
  obtain ⟨hx, hb, hown, hts, hK, hA, hlk, hml, hR, hsf, hNw⟩ := hX
  subst hp
  intro H locs ls hP hD hS hl
  exact lv_i2f hx hb hd (h H locs ls hP hD hS hl)
theorem r_ddiv {x y : UInt64} (hX : Ok SF X cc own d mc ms) (hd : decode cc pc = .ok (.ddiv, 1)) (hne : vf_n64 (FP.ddiv x y)) (hp : pc + 1 = pc') (h : V X k n ws L (.double (FP.ddiv x y) :: st) pc') : V X k n ws L (.double y :: .double x :: st) pc := by
  obtain ⟨p, l, e, R, s, m, args, below, meth, c, nL, G, A, Q⟩ := X
  obtain ⟨hx, hb, hown, hts, hK, hA, hlk, hml, hR, hsf, hNw⟩ := hX
  subst hp
  intro H locs ls hP hD hS hl
  exact lv_ddiv hx hb hd hne (h H locs ls hP hD hS hl)
theorem r_fdiv {x y : UInt32} (hX : Ok SF X cc own d mc ms) (hd : decode cc pc = .ok (.fdiv, 1)) (hne : vf_n32 (FP.fdiv x y)) (hp : pc + 1 = pc') (h : V X k n ws L (.float (FP.fdiv x y) :: st) pc') : V X k n ws L (.float y :: .float x :: st) pc := by
  obtain ⟨p, l, e, R, s, m, args, below, meth, c, nL, G, A, Q⟩ := X
  obtain ⟨hx, hb, hown, hts, hK, hA, hlk, hml, hR, hsf, hNw⟩ := hX
  subst hp
  intro H locs ls hP hD hS hl
  exact lv_fdiv hx hb hd hne (h H locs ls hP hD hS hl)
theorem r_dconst (hX : Ok SF X cc own d mc ms) (hd : decode cc pc = .ok (.dconst 0, 1)) (hp : pc + 1 = pc') (h : V X k n ws L (.double FP.dconst0 :: st) pc') : V X k n ws L (st) pc := by
  obtain ⟨p, l, e, R, s, m, args, below, meth, c, nL, G, A, Q⟩ := X
  obtain ⟨hx, hb, hown, hts, hK, hA, hlk, hml, hR, hsf, hNw⟩ := hX
  subst hp
  intro H locs ls hP hD hS hl
  exact lv_dconst0 hx hb hd (h H locs ls hP hD hS hl)
theorem r_fconst (hX : Ok SF X cc own d mc ms) (hd : decode cc pc = .ok (.fconst 0, 1)) (hp : pc + 1 = pc') (h : V X k n ws L (.float FP.fconst0 :: st) pc') : V X k n ws L (st) pc := by
  obtain ⟨p, l, e, R, s, m, args, below, meth, c, nL, G, A, Q⟩ := X
  obtain ⟨hx, hb, hown, hts, hK, hA, hlk, hml, hR, hsf, hNw⟩ := hX
  subst hp
  intro H locs ls hP hD hS hl
  exact lv_fconst0 hx hb hd (h H locs ls hP hD hS hl)
theorem nn64 {a b : Int32} (h : b ≠ 0) : vf_n64 (FP.ddiv (FP.i2d a) (FP.i2d b)) := Jvm.Free.Fl.ddiv_out (Jvm.Free.Fl.i2d_fin a).noNaN (Jvm.Free.Fl.i2d_fin b) (Jvm.Free.Fl.i2d_nz h)
theorem nn32 {a b : Int32} (h : b ≠ 0) : vf_n32 (FP.fdiv (FP.i2f a) (FP.i2f b)) := Jvm.Free.Fl.fdiv_out (Jvm.Free.Fl.i2f_fin a).noNaN (Jvm.Free.Fl.i2f_fin b) (Jvm.Free.Fl.i2f_nz h)

end VROW
/-! numbers and Int32 -/
theorem pred_I {a : Nat} (h : a < 1000000000) : (nI a - nI 1).toInt = (a : Int) - 1 := pk_sub_toInt (by omega) (by decide)
theorem sub_in {x : Int32} {f n : Nat} (hf : f < 1000000000) (hn : n ≤ 9) : (0 ≤ (x - nI f).toInt ∧ (x - nI f).toInt ≤ (n : Int) - 1) ↔ ((f : Int) ≤ x.toInt ∧ x.toInt < (f : Int) + (n : Int)) := by
  have hx := fb0_rng x
  rw [Int32.toInt_sub, nI_I (by omega)]
  have e : Int.bmod (x.toInt - (f : Int)) (2 ^ 32) = if x.toInt - (f : Int) < -2147483648 then x.toInt - (f : Int) + 4294967296 else x.toInt - (f : Int) := by
    rw [Int.bmod_def]
    split <;> split <;> omega
  rw [e]
  split <;> omega
/-- the model's number for a refusal, and what it answers then -/
def kd (a b c d e : Nat) (x : Int32) : Nat := if x = -1 then a else if x = -2 then b else if x = -3 then c else if x = -4 then d else if x = -5 then e else 0
def mvl (x : Int32) : Int32 := if 0 ≤ x.toInt then x else 0
theorem kd_pos {a b c d e : Nat} {x : Int32} (h : 0 ≤ x.toInt) : kd a b c d e x = 0 := by
  unfold kd
  have f : ∀ y : Int32, y.toInt < 0 → x ≠ y := fun y hy q => by rw [q] at h; omega
  rw [if_neg (f _ (by decide)), if_neg (f _ (by decide)), if_neg (f _ (by decide)), if_neg (f _ (by decide)), if_neg (f _ (by decide))]
theorem mvl_pos {x : Int32} (h : 0 ≤ x.toInt) : mvl x = x := if_pos h
theorem nI_pos9 {n : Nat} (h : n < 2147483648) : 0 ≤ (nI n).toInt := by rw [nI_I h]; omega
theorem kd_nI {a b c d e n : Nat} (h : n < 2147483648) : kd a b c d e (nI n) = 0 := kd_pos (nI_pos9 h)
theorem mvl_nI {n : Nat} (h : n < 2147483648) : mvl (nI n) = nI n := if_pos (nI_pos9 h)
/-- arrays are told apart only below their length -/
theorem aN_congr {c : ClassId} {n : Nat} {f g : Nat → Nat} (h : ∀ j, j < n → f j = g j) : arrV c n (fun j => .int (nI (f j))) = arrV c n (fun j => .int (nI (g j))) := arr_ext (fun j hj => by rw [h j hj])
