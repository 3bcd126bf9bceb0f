/-! ===== scripts: what is read ===== -/
section VTAB
variable {X : xC} {cc : ByteArray} {own : String} {d mc ms : Nat} {k n : Nat} {ws : va_W} {L : List (Option Value)} {st : List Value} {pc pc' : Nat}
theorem r_tabN {dflt lo hi : Int} {offs : Array Int} {len a : Nat} {off : Int} {tgt : Nat} (hX : Ok SF X cc own d mc ms) (hd : decode cc pc = .ok (.tableswitch dflt lo hi offs, len)) (ha : a < 2147483648) (h1 : lo ≤ (a : Int)) (h2 : (a : Int) ≤ hi) (ho : offs[((a : Int) - lo).toNat]? = some off) (ht : (pc : Int) + off = (tgt : Int)) (h : V X k n ws L st tgt) : V X k n ws L (.int (nI a) :: st) pc := by
  obtain ⟨p, l, e, R, s, m, args, below, meth, c, nL, G, A, Q⟩ := X
  obtain ⟨hx, hb, hown, hts, hK, hA, hlk, hml, hR, hsf, hNw⟩ := hX
  intro H locs ls hP hD hS hl
  have e9 := nI_toInt ha
  exact lv_tableIn hx hb hd (by rw [e9]; omega) (by rw [e9]; omega) (by rw [e9]; exact ho) ht (h H locs ls hP hD hS hl)
theorem r_tabO {dflt lo hi : Int} {offs : Array Int} {len : Nat} {x : Int32} {tgt : Nat} (hX : Ok SF X cc own d mc ms) (hd : decode cc pc = .ok (.tableswitch dflt lo hi offs, len)) (hx9 : x.toInt < lo ∨ hi < x.toInt ∨ offs[(x.toInt - lo).toNat]? = some dflt) (ht : (pc : Int) + dflt = (tgt : Int)) (h : V X k n ws L st tgt) : V X k n ws L (.int x :: st) pc := by
  obtain ⟨p, l, e, R, s, m, args, below, meth, c, nL, G, A, Q⟩ := X
  obtain ⟨hx, hb, hown, hts, hK, hA, hlk, hml, hR, hsf, hNw⟩ := hX
  intro H locs ls hP hD hS hl
  by_cases q1 : x.toInt < lo
  · exact lv_tableOut hx hb hd (Or.inl q1) ht (h H locs ls hP hD hS hl)
  · by_cases q2 : hi < x.toInt
    · exact lv_tableOut hx hb hd (Or.inr q2) ht (h H locs ls hP hD hS hl)
    · exact lv_tableIn hx hb hd q1 q2 ((hx9.resolve_left q1).resolve_left q2) ht (h H locs ls hP hD hS hl)
end VTAB
/-- the letter at p, or 1000 behind the end -/
def hr (t : List Nat) (p : Nat) : Nat := t.getD p 1000
def hrI (t : List Nat) (p : Nat) : Int32 := if p < t.length then nI (hr t p) else -1
theorem hr_lt {t : List Nat} {p : Nat} (h : p < t.length) : hr t p = t[p] := getD_at h
theorem hr_ge {t : List Nat} {p : Nat} (h : t.length ≤ p) : hr t p = 1000 := by
  unfold hr
  simp [List.getD_eq_getElem?_getD, h]
theorem hr_in {t : List Nat} {p : Nat} (h : hr t p < 1000) : p < t.length := by
  refine Classical.byContradiction fun q => ?_
  rw [hr_ge (by omega)] at h
  omega
section HRI
variable {t : List Nat} {p c : Nat} (hch : ∀ c ∈ t, c < 127)
theorem hr_ch (hch : ∀ c ∈ t, c < 127) (h : p < t.length) : hr t p < 127 := by
  rw [hr_lt h]
  exact hch _ (List.getElem_mem h)
theorem hrI_n (hch : ∀ c ∈ t, c < 127) (h : hr t p < 1000) : hrI t p = nI (hr t p) := if_pos (hr_in h)
theorem hrI_eq (hch : ∀ c ∈ t, c < 127) (hc : c < 1000) : (hrI t p).toInt = (c : Int) ↔ hr t p = c := by
  unfold hrI
  by_cases h : p < t.length
  · have := hr_ch hch h
    rw [if_pos h, nI_I (by omega)]
    omega
  · rw [if_neg h, hr_ge (by omega), show ((-1 : Int32)).toInt = -1 from rfl]
    omega
abbrev isd (c : Nat) : Prop := 48 ≤ c ∧ c ≤ 57
theorem hrI_d (hch : ∀ c ∈ t, c < 127) : (48 ≤ (hrI t p).toInt ∧ (hrI t p).toInt ≤ 57) ↔ isd (hr t p) := by
  unfold hrI
  by_cases h : p < t.length
  · have := hr_ch hch h
    rw [if_pos h, nI_I (by omega)]
    omega
  · rw [if_neg h, hr_ge (by omega), show ((-1 : Int32)).toInt = -1 from rfl]
    omega
end HRI
/-- a sign that must stand here; (has it gone wrong, place) -/
def nd (t : List Nat) (c : Nat) (s : Bool × Nat) : Bool × Nat := if s.1 = false ∧ hr t s.2 = c then (false, s.2 + 1) else (true, s.2)
theorem nd_ok {t : List Nat} {c : Nat} {s : Bool × Nat} (h : s.1 = false ∧ hr t s.2 = c) : nd t c s = (false, s.2 + 1) := if_pos h
theorem nd_bad {t : List Nat} {c : Nat} {s : Bool × Nat} (h : ¬ (s.1 = false ∧ hr t s.2 = c)) : nd t c s = (true, s.2) := if_neg h
/-- a number of at most m digits -/
def dgt (t : List Nat) (m : Nat) (s : Bool × Nat) : (Bool × Nat) × Nat :=
  if s.1 = false ∧ isd (hr t s.2) then
    if m = 2 ∧ isd (hr t (s.2 + 1)) then ((false, s.2 + 2), 10 * (hr t s.2 - 48) + (hr t (s.2 + 1) - 48)) else ((false, s.2 + 1), hr t s.2 - 48)
  else ((true, s.2), 0)
theorem dgt_bad {t : List Nat} {m : Nat} {s : Bool × Nat} (h : ¬ (s.1 = false ∧ isd (hr t s.2))) : dgt t m s = ((true, s.2), 0) := if_neg h
theorem dgt_1 {t : List Nat} {m : Nat} {s : Bool × Nat} (h : s.1 = false ∧ isd (hr t s.2)) (h2 : ¬ (m = 2 ∧ isd (hr t (s.2 + 1)))) : dgt t m s = ((false, s.2 + 1), hr t s.2 - 48) := by
  unfold dgt
  rw [if_pos h, if_neg h2]
theorem dgt_2 {t : List Nat} {m : Nat} {s : Bool × Nat} (h : s.1 = false ∧ isd (hr t s.2)) (h2 : m = 2 ∧ isd (hr t (s.2 + 1))) : dgt t m s = ((false, s.2 + 2), 10 * (hr t s.2 - 48) + (hr t (s.2 + 1) - 48)) := by
  unfold dgt
  rw [if_pos h, if_pos h2]
theorem dgt_v {t : List Nat} {m : Nat} {s : Bool × Nat} : (dgt t m s).2 < 100 := by
  unfold dgt
  split
  · split
    · show 10 * (hr t s.2 - 48) + (hr t (s.2 + 1) - 48) < 100
      omega
    · show hr t s.2 - 48 < 100
      omega
  · show 0 < 100
    decide
/-- a sign of a form; 35 and 42 stand for numbers -/
def sgn (t : List Nat) (x : Bool × Nat × List Nat) (c : Nat) : Bool × Nat × List Nat :=
  if c = 35 then ((dgt t 1 (x.1, x.2.1)).1.1, (dgt t 1 (x.1, x.2.1)).1.2, x.2.2 ++ [(dgt t 1 (x.1, x.2.1)).2])
  else if c = 42 then ((dgt t 2 (x.1, x.2.1)).1.1, (dgt t 2 (x.1, x.2.1)).1.2, x.2.2 ++ [(dgt t 2 (x.1, x.2.1)).2])
  else ((nd t c (x.1, x.2.1)).1, (nd t c (x.1, x.2.1)).2, x.2.2)
def tf (t : List Nat) (f : List Nat) (x : Bool × Nat × List Nat) : Bool × Nat × List Nat := f.foldl (sgn t) x
theorem tf_cons {t f : List Nat} {c : Nat} {x : Bool × Nat × List Nat} : tf t (c :: f) x = tf t f (sgn t x c) := rfl
theorem sgn_nd {t ns : List Nat} {p c : Nat} (h : hr t p = c) (h1 : c ≠ 35) (h2 : c ≠ 42) : sgn t (false, p, ns) c = (false, p + 1, ns) := by
  unfold sgn
  rw [if_neg h1, if_neg h2, nd_ok ⟨rfl, h⟩]
theorem sgn_bad {t ns : List Nat} {p c : Nat} (h : hr t p ≠ c) (h1 : c ≠ 35) (h2 : c ≠ 42) : sgn t (false, p, ns) c = (true, p, ns) := by
  unfold sgn
  rw [if_neg h1, if_neg h2, nd_bad (fun q => h q.2)]
/-- gone wrong, it stays so, and stays there -/
theorem sgn_st {t : List Nat} {x : Bool × Nat × List Nat} {c : Nat} (h : x.1 = true) : (sgn t x c).1 = true ∧ (sgn t x c).2.1 = x.2.1 := by
  have hf : ¬ (x.1 = false) := by rw [h]; decide
  unfold sgn
  split
  · rw [dgt_bad (fun q => hf q.1)]; exact ⟨rfl, rfl⟩
  · split
    · rw [dgt_bad (fun q => hf q.1)]; exact ⟨rfl, rfl⟩
    · rw [nd_bad (fun q => hf q.1)]; exact ⟨rfl, rfl⟩
theorem tf_st {t : List Nat} : ∀ {f : List Nat} {x : Bool × Nat × List Nat}, x.1 = true → (tf t f x).1 = true ∧ (tf t f x).2.1 = x.2.1
  | [], _, h => ⟨h, rfl⟩
  | c :: f, x, h => by
    obtain ⟨h1, h2⟩ := sgn_st (t := t) (c := c) h
    obtain ⟨g1, g2⟩ := tf_st (f := f) h1
    exact ⟨g1, g2.trans h2⟩
/-- a sign read goes on, within the text -/
theorem sgn_go {t : List Nat} {x : Bool × Nat × List Nat} {c : Nat} (hc : c < 1000) (h : (sgn t x c).1 = false) : x.1 = false ∧ x.2.1 < (sgn t x c).2.1 ∧ (sgn t x c).2.1 ≤ t.length := by
  have hx : x.1 = false := by
    cases e : x.1 with
    | false => rfl
    | true => rw [(sgn_st e).1] at h; exact absurd h (by decide)
  refine ⟨hx, ?_⟩
  have D : ∀ m, (dgt t m (x.1, x.2.1)).1.1 = false → x.2.1 < (dgt t m (x.1, x.2.1)).1.2 ∧ (dgt t m (x.1, x.2.1)).1.2 ≤ t.length := by
    intro m hm
    by_cases q : (x.1, x.2.1).1 = false ∧ isd (hr t (x.1, x.2.1).2)
    · have q1 := hr_in (t := t) (p := x.2.1) (by have q9 : isd (hr t x.2.1) := q.2; omega)
      by_cases q2 : m = 2 ∧ isd (hr t ((x.1, x.2.1).2 + 1))
      · have q3 := hr_in (t := t) (p := x.2.1 + 1) (by have q9 : isd (hr t (x.2.1 + 1)) := q2.2; omega)
        rw [dgt_2 q q2]
        show x.2.1 < x.2.1 + 2 ∧ x.2.1 + 2 ≤ t.length
        omega
      · rw [dgt_1 q q2]
        show x.2.1 < x.2.1 + 1 ∧ x.2.1 + 1 ≤ t.length
        omega
    · rw [dgt_bad q] at hm
      exact absurd (show true = false from hm) (by decide)
  unfold sgn at h ⊢
  split at h
  · rename_i e
    rw [if_pos e]
    exact D 1 h
  · rename_i e
    rw [if_neg e]
    split at h
    · rename_i e2
      rw [if_pos e2]
      exact D 2 h
    · rename_i e2
      rw [if_neg e2]
      by_cases q : (x.1, x.2.1).1 = false ∧ hr t (x.1, x.2.1).2 = c
      · have q1 := hr_in (t := t) (p := x.2.1) (by have q9 : hr t x.2.1 = c := q.2; omega)
        rw [nd_ok q]
        show x.2.1 < x.2.1 + 1 ∧ x.2.1 + 1 ≤ t.length
        omega
      · rw [nd_bad q] at h
        exact absurd (show true = false from h) (by decide)
/-- never back, nor far behind the end -/
theorem sgn_mo {t : List Nat} {x : Bool × Nat × List Nat} {c : Nat} (hc : c < 1000) : x.2.1 ≤ (sgn t x c).2.1 := by
  cases e : (sgn t x c).1 with
  | false => exact Nat.le_of_lt (sgn_go hc e).2.1
  | true =>
    unfold sgn at e ⊢
    have D : ∀ m, (dgt t m (x.1, x.2.1)).1.1 = true → (dgt t m (x.1, x.2.1)).1.2 = x.2.1 := by
      intro m hm
      by_cases q : (x.1, x.2.1).1 = false ∧ isd (hr t (x.1, x.2.1).2)
      · by_cases q2 : m = 2 ∧ isd (hr t ((x.1, x.2.1).2 + 1))
        · rw [dgt_2 q q2] at hm; exact absurd (show false = true from hm) (by decide)
        · rw [dgt_1 q q2] at hm; exact absurd (show false = true from hm) (by decide)
      · rw [dgt_bad q]
    split at e
    · rename_i z; rw [if_pos z]; exact Nat.le_of_eq (D 1 e).symm
    · rename_i z
      rw [if_neg z]
      split at e
      · rename_i z2; rw [if_pos z2]; exact Nat.le_of_eq (D 2 e).symm
      · rename_i z2
        rw [if_neg z2]
        by_cases q : (x.1, x.2.1).1 = false ∧ hr t (x.1, x.2.1).2 = c
        · rw [nd_ok q] at e; exact absurd (show false = true from e) (by decide)
        · rw [nd_bad q]; exact Nat.le_refl _
theorem tf_mo {t : List Nat} : ∀ {f : List Nat} {x : Bool × Nat × List Nat}, (∀ c ∈ f, c < 1000) → x.2.1 ≤ (tf t f x).2.1
  | [], _, _ => Nat.le_refl _
  | c :: f, x, h => Nat.le_trans (sgn_mo (h c List.mem_cons_self)) (tf_mo (f := f) (fun d hd => h d (List.mem_cons_of_mem _ hd)))
theorem tf_go {t : List Nat} : ∀ {f : List Nat} {x : Bool × Nat × List Nat}, (∀ c ∈ f, c < 1000) → (tf t f x).1 = false → x.1 = false ∧ (f = [] ∨ (x.2.1 < (tf t f x).2.1 ∧ (tf t f x).2.1 ≤ t.length))
  | [], _, _, h => ⟨h, Or.inl rfl⟩
  | c :: f, x, hc, h => by
    obtain ⟨h1, h2⟩ := tf_go (f := f) (x := sgn t x c) (fun d hd => hc d (List.mem_cons_of_mem _ hd)) h
    obtain ⟨g1, g2, g3⟩ := sgn_go (hc c List.mem_cons_self) h1
    refine ⟨g1, Or.inr ?_⟩
    rw [tf_cons]
    rcases h2 with rfl | h2
    · exact ⟨g2, g3⟩
    · exact ⟨Nat.lt_trans g2 h2.1, h2.2⟩
/-- the form that the letters here begin; 9: none -/
def fi (t : List Nat) (p : Nat) : Nat :=
  if hr t p = 97 then 0 else if hr t p = 109 then (if hr t (p + 1) = 101 then 5 else 1) else if hr t p = 98 then 2 else if hr t p = 99 then 3 else if hr t p = 116 then 4 else if hr t p = 114 then 6 else if hr t p = 108 then 7 else if hr t p = 115 then 8 else 9
/-- a command read from p on: has it gone wrong, the place then, its numbers -/
def prs (t : List Nat) (p : Nat) : Bool × Nat × List Nat := if fi t p = 9 then (true, p, []) else tf t (frm (fi t p)) (false, p, [])
theorem fi_97 {t : List Nat} {p : Nat} (h : hr t p = 97) : fi t p = 0 := by unfold fi; rw [h]; rfl
theorem fi_98 {t : List Nat} {p : Nat} (h : hr t p = 98) : fi t p = 2 := by unfold fi; rw [h]; rfl
theorem fi_99 {t : List Nat} {p : Nat} (h : hr t p = 99) : fi t p = 3 := by unfold fi; rw [h]; rfl
theorem fi_116 {t : List Nat} {p : Nat} (h : hr t p = 116) : fi t p = 4 := by unfold fi; rw [h]; rfl
theorem fi_114 {t : List Nat} {p : Nat} (h : hr t p = 114) : fi t p = 6 := by unfold fi; rw [h]; rfl
theorem fi_108 {t : List Nat} {p : Nat} (h : hr t p = 108) : fi t p = 7 := by unfold fi; rw [h]; rfl
theorem fi_115 {t : List Nat} {p : Nat} (h : hr t p = 115) : fi t p = 8 := by unfold fi; rw [h]; rfl
theorem fi_me {t : List Nat} {p : Nat} (h : hr t p = 109) (h2 : hr t (p + 1) = 101) : fi t p = 5 := by unfold fi; rw [h, h2]; rfl
theorem fi_mo {t : List Nat} {p : Nat} (h : hr t p = 109) (h2 : hr t (p + 1) ≠ 101) : fi t p = 1 := by unfold fi; rw [h, if_neg h2]; rfl
theorem fi_no {t : List Nat} {p : Nat} (h : hr t p ≠ 97 ∧ hr t p ≠ 109 ∧ hr t p ≠ 98 ∧ hr t p ≠ 99 ∧ hr t p ≠ 116 ∧ hr t p ≠ 114 ∧ hr t p ≠ 108 ∧ hr t p ≠ 115) : fi t p = 9 := by
  unfold fi
  rw [if_neg h.1, if_neg h.2.1, if_neg h.2.2.1, if_neg h.2.2.2.1, if_neg h.2.2.2.2.1, if_neg h.2.2.2.2.2.1, if_neg h.2.2.2.2.2.2.1, if_neg h.2.2.2.2.2.2.2]
theorem fi_le {t : List Nat} {p : Nat} : fi t p ≤ 9 := by
  unfold fi
  repeat' split
  all_goals decide
theorem prs_9 {t : List Nat} {p : Nat} (h : fi t p = 9) : prs t p = (true, p, []) := if_pos h
theorem prs_i {t : List Nat} {p i : Nat} (h : fi t p = i) (hi : i < 9) : prs t p = tf t (frm i) (false, p, []) := by
  unfold prs
  rw [if_neg (by omega), h]
theorem frm_ch : ∀ i, i < 9 → ∀ c ∈ frm i, c < 1000 := by decide
theorem frm_ne : ∀ i, i < 9 → frm i ≠ [] := by decide
/-- a command that is read goes on, within the text -/
theorem prs_go {t : List Nat} {p : Nat} (h : (prs t p).1 = false) : fi t p < 9 ∧ p < (prs t p).2.1 ∧ (prs t p).2.1 ≤ t.length := by
  by_cases q : fi t p = 9
  · rw [prs_9 q] at h
    exact absurd (show true = false from h) (by decide)
  · have hl := fi_le (t := t) (p := p)
    have hi : fi t p < 9 := by omega
    rw [prs_i rfl hi] at h ⊢
    obtain ⟨-, h2⟩ := tf_go (frm_ch _ hi) h
    exact ⟨hi, h2.resolve_left (frm_ne _ hi)⟩
theorem prs_mo {t : List Nat} {p : Nat} : p ≤ (prs t p).2.1 := by
  by_cases q : fi t p = 9
  · rw [prs_9 q]; exact Nat.le_refl _
  · have hl := fi_le (t := t) (p := p)
    rw [prs_i rfl (by omega)]
    exact tf_mo (x := (false, p, [])) (frm_ch _ (by omega))
/-! all commands: has it gone wrong, the place then, the commands (form, numbers) -/
def pall (t : List Nat) : Nat → Nat → Bool × Nat × List (Nat × List Nat)
  | 0, p => (true, p, [])
  | f + 1, p =>
    if (prs t p).1 = true then (true, (prs t p).2.1, [])
    else if t.length ≤ (prs t p).2.1 then (false, (prs t p).2.1, [(fi t p, (prs t p).2.2)])
    else if hr t (prs t p).2.1 = 59 then ((pall t f ((prs t p).2.1 + 1)).1, (pall t f ((prs t p).2.1 + 1)).2.1, (fi t p, (prs t p).2.2) :: (pall t f ((prs t p).2.1 + 1)).2.2)
    else (true, (prs t p).2.1, [])
theorem pall_bad {t : List Nat} {f p : Nat} (h : (prs t p).1 = true) : pall t (f + 1) p = (true, (prs t p).2.1, []) := by rw [pall, if_pos h]
theorem pall_end {t : List Nat} {f p : Nat} (h : (prs t p).1 = false) (h2 : t.length ≤ (prs t p).2.1) : pall t (f + 1) p = (false, (prs t p).2.1, [(fi t p, (prs t p).2.2)]) := by rw [pall, if_neg (by rw [h]; decide), if_pos h2]
theorem pall_on {t : List Nat} {f p : Nat} (h : (prs t p).1 = false) (h2 : ¬ t.length ≤ (prs t p).2.1) (h3 : hr t (prs t p).2.1 = 59) : pall t (f + 1) p = ((pall t f ((prs t p).2.1 + 1)).1, (pall t f ((prs t p).2.1 + 1)).2.1, (fi t p, (prs t p).2.2) :: (pall t f ((prs t p).2.1 + 1)).2.2) := by rw [pall, if_neg (by rw [h]; decide), if_neg h2, if_pos h3]
theorem pall_no {t : List Nat} {f p : Nat} (h : (prs t p).1 = false) (h2 : ¬ t.length ≤ (prs t p).2.1) (h3 : ¬ hr t (prs t p).2.1 = 59) : pall t (f + 1) p = (true, (prs t p).2.1, []) := by rw [pall, if_neg (by rw [h]; decide), if_neg h2, if_neg h3]
/-- a command's change -/
def oC (c : Nat × List Nat) (v : SV) : Int32 × SV :=
  let a := nI (c.2.getD 0 0)
  let b := nI (c.2.getD 1 0)
  let z := nI (c.2.getD 2 0)
  if c.1 = 0 then oMix v a b z else if c.1 = 1 then oMould v a else if c.1 = 2 then oBuy v a b else if c.1 = 3 then oPour v a b z else if c.1 = 4 then oExam v a else if c.1 = 5 then oMelt v a else if c.1 = 6 then oReset v a else if c.1 = 7 then oTol v a else oStep v a
theorem oC_inv {K : Nat} {c : Nat × List Nat} {v : SV} (h : Inv K v) (hK : K < 100000) : Inv (K + 1) (oC c v).2 := by
  unfold oC
  repeat' split
  · exact oMix_inv h
  · exact oMould_inv h
  · exact oBuy_inv h
  · exact oPour_inv h hK
  · exact oExam_inv h hK
  · exact oMelt_inv h hK
  · exact oReset_inv h
  · exact oTol_inv h
  · exact oStep_inv h
/-- commands one after the other: the place of the first that is refused, the State then -/
def rnC : List (Nat × List Nat) → SV → Nat → Option Nat × SV
  | [], v, _ => (none, v)
  | c :: cs, v, i => if (oC c v).1.toInt < 0 then (some i, (oC c v).2) else rnC cs (oC c v).2 (i + 1)
theorem rnC_no {c : Nat × List Nat} {cs : List (Nat × List Nat)} {v : SV} {i : Nat} (h : (oC c v).1.toInt < 0) : rnC (c :: cs) v i = (some i, (oC c v).2) := if_pos h
theorem rnC_on {c : Nat × List Nat} {cs : List (Nat × List Nat)} {v : SV} {i : Nat} (h : ¬ (oC c v).1.toInt < 0) : rnC (c :: cs) v i = rnC cs (oC c v).2 (i + 1) := if_neg h
theorem rnC_inv {K : Nat} : ∀ {cs : List (Nat × List Nat)} {v : SV} {i : Nat}, Inv K v → K + cs.length ≤ 100000 → Inv (K + cs.length) (rnC cs v i).2
  | [], v, i, h, _ => h
  | c :: cs, v, i, h, hK => by
    have hK' : K + (cs.length + 1) ≤ 100000 := hK
    have h1 := oC_inv (c := c) h (by omega)
    show Inv (K + (cs.length + 1)) _
    by_cases q : (oC c v).1.toInt < 0
    · rw [rnC_no q]
      exact h1.mono (by omega)
    · rw [rnC_on q]
      have := rnC_inv (K := K + 1) (cs := cs) (v := (oC c v).2) (i := i + 1) h1 (by omega)
      rwa [show K + 1 + cs.length = K + (cs.length + 1) by omega] at this
theorem pall_len {t : List Nat} : ∀ {f p : Nat}, (pall t f p).2.2.length ≤ f
  | 0, p => Nat.le_refl _
  | f + 1, p => by
    rw [pall]
    split
    · exact Nat.zero_le _
    · split
      · show 1 ≤ f + 1
        omega
      · split
        · have := pall_len (t := t) (f := f) (p := (prs t p).2.1 + 1)
          rw [List.length_cons]
          omega
        · exact Nat.zero_le _
/-! the script run -/
abbrev scr (S : AS) : Bool × Nat × List (Nat × List Nat) := pall S.2.2.2.1 61 0
def aE (S : AS) (x : Int32) : AS := (S.1, S.2.1, S.2.2.1, [], S.2.2.2.2.1, x, S.2.2.2.2.2.2)
def aF (S : AS) (x : Int32) : AS := (S.1, S.2.1, S.2.2.1, [], S.2.2.2.2.1, S.2.2.2.2.2.1, x)
def qRun (S : AS) : Int32 := if (scr S).1 = true then -2 else match (rnC (scr S).2.2 S.1 0).1 with
  | some _ => -3
  | none => nI (scr S).2.2.length
def aRun (S : AS) : AS := if (scr S).1 = true then aE S (nI (scr S).2.1) else match (rnC (scr S).2.2 S.1 0).1 with
  | some i => aF S (nI i)
  | none => aBuf ((rnC (scr S).2.2 S.1 0).2, (S.1 :: S.2.1).take 8, S.2.2) []
