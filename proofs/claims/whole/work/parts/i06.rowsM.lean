/-! ===== the law's own: its script, its world ===== -/
/-- the script, which nobody writes -/
def Scr (X : xC) (b L : Nat) (xs : Nat → Int32) : Prop := match X with
  | (_, _, _, _, s, _, _, _, _, _, _, _, A, _) => va_X b L xs s s.heap ∧ b < s.heap.size ∧ ¬ A b
section VSCR
variable {X : xC} {cc : ByteArray} {own : String} {d mc ms : Nat} {k n : Nat} {ws : va_W} {L : List (Option Value)} {st : List Value} {pc pc' b L9 i : Nat} {xs : Nat → Int32}
theorem r_sld (hX : Ok SF X cc own d mc ms) (hd : decode cc pc = .ok (.iaload, 1)) (hS9 : Scr X b L9 xs) (hi : i < L9) (hL9 : L9 ≤ 2048) (hp : pc + 1 = pc') (h : V X k n ws L (.int (xs i) :: st) pc') : V X k n ws L (.int (nI i) :: .ref b :: st) pc := by
  obtain ⟨p, l, e, R, s, m, args, below, meth, c, nL, G, A, Q⟩ := X
  obtain ⟨hx, hb, hown, hts, hK, hA, hlk, hml, hR, hsf, hNw⟩ := hX
  subst hp
  intro H locs ls hP hD hS hl
  have hcl : (nI i).toNatClampNeg = i := nI_clamp (by omega)
  exact va_sld hx hb hS9.1 hS9.2.1 hS9.2.2 hS (vp_in_nI hi (by omega)) hd (by rw [hcl]; exact h H locs ls hP hD hS hl)
theorem r_slen (hX : Ok SF X cc own d mc ms) (hd : decode cc pc = .ok (.arraylength, 1)) (hS9 : Scr X b L9 xs) (hp : pc + 1 = pc') (h : V X k n ws L (.int (nI L9) :: st) pc') : V X k n ws L (.ref b :: st) pc := by
  obtain ⟨p, l, e, R, s, m, args, below, meth, c, nL, G, A, Q⟩ := X
  obtain ⟨hx, hb, hown, hts, hK, hA, hlk, hml, hR, hsf, hNw⟩ := hX
  subst hp
  intro H locs ls hP hD hS hl
  exact va_slen hx hb hS9.1 hS9.2.1 hS9.2.2 hS hd (h H locs ls hP hD hS hl)
end VSCR
def LW (cy : Nat → ClassId) (o od : Nat) (fl : Nat → Int64) (fd : Nat → UInt64) (wf wm : va_W) : va_W := [(o, .inl (cy 6, aL 1 fl)), (od, .inl (cy 7, aD 1 fd))] ++ (wf ++ wm)
section LWP
variable {cy : Nat → ClassId} {o od : Nat} {fl : Nat → Int64} {fd : Nat → UInt64} {wf wm : va_W}
theorem LW_c : (LW cy o od fl fd wf wm).Perm (([(o, .inl (cy 6, aL 1 fl))] ++ wf) ++ ([(od, .inl (cy 7, aD 1 fd))] ++ wm)) := by
  show (_ :: _ :: (wf ++ wm)).Perm (_ :: (wf ++ (_ :: wm)))
  exact List.Perm.cons _ List.perm_middle.symm
theorem LW_d : (LW cy o od fl fd wf wm).Perm (([(od, .inl (cy 7, aD 1 fd))] ++ wf) ++ ([(o, .inl (cy 6, aL 1 fl))] ++ wm)) := by
  show (_ :: _ :: (wf ++ wm)).Perm (_ :: (wf ++ (_ :: wm)))
  exact (List.Perm.swap _ _ _).trans (List.Perm.cons _ List.perm_middle.symm)
theorem LW_f : (LW cy o od fl fd wf wm).Perm (wf ++ ([(o, .inl (cy 6, aL 1 fl)), (od, .inl (cy 7, aD 1 fd))] ++ wm)) := List.perm_append_comm_assoc _ _ _
theorem LW_m : (LW cy o od fl fd wf wm).Perm (wm ++ ([(o, .inl (cy 6, aL 1 fl)), (od, .inl (cy 7, aD 1 fd))] ++ wf)) := by
  unfold LW
  rw [← List.append_assoc]
  exact List.perm_append_comm
end LWP
theorem MS_recv {cy : Nat → ClassId} {ma : Nat → Nat} {S : AS} {t : Nat} {u : va_W} (h : MS cy ma S t u) : ∃ (ci : Nat) (fs : List Value) (T : u_T) (N : Nat), (ma 0, Sum.inr (ci, fs)) ∈ u ∧ vwCl[ci]? = some (RX6, T, N) := by
  obtain ⟨r, e, g, bf, hy, sv, bu, le, pa, rfl, h⟩ := h
  exact ⟨8, _, TX6, 16, List.mem_cons_self, rfl⟩
