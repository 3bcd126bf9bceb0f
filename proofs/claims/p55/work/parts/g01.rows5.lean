/-! ===== cells that hold the same, though their functions differ beyond their ends ===== -/
def cEq (x y : Nat × va_E) : Prop := x = y ∨ (∃ (a : Nat) (c : ClassId) (n : Nat) (f g : Nat → Nat), x = (a, .inl (c, aN n f)) ∧ y = (a, .inl (c, aN n g)) ∧ ∀ j, j < n → f j = g j) ∨ (∃ (a : Nat) (c : ClassId) (n : Nat) (f g : Nat → Option Nat), x = (a, .inl (c, aR n f)) ∧ y = (a, .inl (c, aR n g)) ∧ ∀ j, j < n → f j = g j)
def wEq : va_W → va_W → Prop
  | [], [] => True
  | x :: l, y :: l' => cEq x y ∧ wEq l l'
  | _ :: _, [] => False
  | [], _ :: _ => False
theorem wEq.nil : wEq [] [] := trivial
theorem wEq.cons {x y : Nat × va_E} {l l' : va_W} (h : cEq x y) (g : wEq l l') : wEq (x :: l) (y :: l') := ⟨h, g⟩
theorem cEq.r {x : Nat × va_E} : cEq x x := Or.inl rfl
theorem cEq.N {a : Nat} {c : ClassId} {n : Nat} {f g : Nat → Nat} (h : ∀ j, j < n → f j = g j) : cEq (a, .inl (c, aN n f)) (a, .inl (c, aN n g)) := Or.inr (Or.inl ⟨a, c, n, f, g, rfl, rfl, h⟩)
theorem cEq.R {a : Nat} {c : ClassId} {n : Nat} {f g : Nat → Option Nat} (h : ∀ j, j < n → f j = g j) : cEq (a, .inl (c, aR n f)) (a, .inl (c, aR n g)) := Or.inr (Or.inr ⟨a, c, n, f, g, rfl, rfl, h⟩)
theorem wEq.rf : ∀ {l : va_W}, wEq l l
  | [] => trivial
  | _ :: _ => ⟨cEq.r, wEq.rf⟩
theorem wEq.app : ∀ {a a' b b' : va_W}, wEq a a' → wEq b b' → wEq (a ++ b) (a' ++ b')
  | [], [], _, _, _, h => h
  | _ :: _, _ :: _, _, _, h, g => ⟨h.1, wEq.app h.2 g⟩
  | [], _ :: _, _, _, h, _ => h.elim
  | _ :: _, [], _, _, h, _ => h.elim
theorem cEq.fst {x y : Nat × va_E} (h : cEq x y) : x.1 = y.1 := by
  rcases h with rfl | ⟨a, c, n, f, g, rfl, rfl, -⟩ | ⟨a, c, n, f, g, rfl, rfl, -⟩ <;> rfl
theorem cEq.at {x y : Nat × va_E} (h : cEq x y) {D : va_G} {H : Heap} (hx : va_at D vwCl x H) : va_at D vwCl y H := by
  rcases h with rfl | ⟨a, c, n, f, g, rfl, rfl, he⟩ | ⟨a, c, n, f, g, rfl, rfl, he⟩
  · exact hx
  · show H[a]? = some (arrV c n (fun j => .int (nI (g j))))
    rw [← aN_congr he]
    exact hx
  · show H[a]? = some (arrV c n (fun j => va_rf (g j)))
    have e9 : arrV c n (fun j => va_rf (f j)) = arrV c n (fun j => va_rf (g j)) := arr_ext (fun j hj => by rw [he j hj])
    rw [← e9]
    exact hx
theorem wEq.get : ∀ {a b : va_W}, wEq a b → ∀ (k : Nat) (q : Nat × va_E), b[k]? = some q → ∃ p, a[k]? = some p ∧ cEq p q
  | [], [], _, k, q, hq => by cases hq
  | x :: _, y :: _, h, 0, q, hq => by cases hq; exact ⟨x, rfl, h.1⟩
  | _ :: _, _ :: _, h, k + 1, q, hq => wEq.get h.2 k q hq
  | [], _ :: _, h, _, _, _ => h.elim
  | _ :: _, [], h, _, _, _ => h.elim
section VCELLS
variable {X : xC} {cc : ByteArray} {own : String} {d mc ms : Nat} {k n : Nat} {ws : va_W} {L : List (Option Value)} {st : List Value} {pc pc' : Nat}
theorem V_cells {ws2 : va_W} (hw : wEq ws ws2) (h : V X k n ws2 L st pc) : V X k n ws L st pc := by
  obtain ⟨p, l, e, R, s, m, args, below, meth, c, nL, G, A, Q⟩ := X
  intro H locs ls hP hD hS hl
  refine h H locs ls (fun i q hq => ?_) ⟨fun i j p q hp hq hpq => ?_, fun i q hq => ?_⟩ hS hl
  · obtain ⟨p, h1, h2⟩ := hw.get i q hq
    exact h2.at (hP i p h1)
  · obtain ⟨p', h1, h2⟩ := hw.get i p hp
    obtain ⟨q', h3, h4⟩ := hw.get j q hq
    exact hD.1 i j p' q' h1 h3 (by rw [h2.fst, h4.fst]; exact hpq)
  · obtain ⟨p', h1, h2⟩ := hw.get i q hq
    have := hD.2 i p' h1
    rw [h2.fst] at this
    exact this
theorem r_aaldP {a i n0 y : Nat} {f : Nat → Option Nat} {cA : ClassId} {ty : FieldType} (hX : Ok SF X cc own d mc ms) (hd : decode cc pc = .ok (.aaload, 1)) (t0 : Nat) (ht : (tysG (c0_cy X))[t0]? = some (cA, ty)) (hty : ty.isReference = true) (q0 : Nat) (he : ws[q0]? = some (a, Sum.inl (cA, aR n0 f))) (hi : i < n0) (hn : n0 < 2147483648) (hf : f i = some y) (hp : pc + 1 = pc') (h : V X k n ws L (.ref y :: st) pc') : V X k n ws L (.int (nI i) :: .ref a :: st) pc :=
  r_aald hX hd t0 ht hty (List.mem_of_getElem? he) hi hn hf hp h
theorem r_alenR {a n0 : Nat} {g : Nat → Option Nat} {cA : ClassId} {ty : FieldType} (hX : Ok SF X cc own d mc ms) (hd : decode cc pc = .ok (.arraylength, 1)) (t0 : Nat) (ht : (tysG (c0_cy X))[t0]? = some (cA, ty)) (q0 : Nat) (he : ws[q0]? = some (a, Sum.inl (cA, aR n0 g))) (hp : pc + 1 = pc') (h : V X k n ws L (.int (nI n0) :: st) pc') : V X k n ws L (.ref a :: st) pc :=
  r_alen hX hd t0 ht (List.mem_of_getElem? he) rfl hp h
end VCELLS
/-- a block of the numbers set anew -/
def upb (w : Nat → Nat → Nat) (b : Nat) (f : Nat → Nat) : Nat → Nat → Nat := fun b' => if b' = b then f else w b'
theorem cp_perm {A B : va_W} {x y : Nat × va_E} (i j : Nat) (h1 : A[i]? = some x) (h3 : B[j]? = some y) : (A ++ B).Perm ([y, x] ++ (A.eraseIdx i ++ B.eraseIdx j)) := by
  refine ((er_perm h1).append (er_perm h3)).trans ?_
  show (x :: A.eraseIdx i ++ y :: B.eraseIdx j).Perm (y :: x :: (A.eraseIdx i ++ B.eraseIdx j))
  refine List.perm_middle.trans ?_
  exact List.Perm.refl _
theorem cp_back {A A' B : va_W} {x y : Nat × va_E} (i j : Nat) (h1 : A'[i]? = some x) (h2 : A'.eraseIdx i = A.eraseIdx i) (h3 : B[j]? = some y) : ([y, x] ++ (A.eraseIdx i ++ B.eraseIdx j)).Perm (A' ++ B) := by
  rw [← h2]
  exact (cp_perm i j h1 h3).symm
theorem er_perm2 {α : Type} {l : List α} {x y : α} (i : Nat) (h1 : l[i]? = some x) (h2 : (l.eraseIdx i)[i]? = some y) : l.Perm (x :: y :: (l.eraseIdx i).eraseIdx i) := (er_perm h1).trans (List.Perm.cons _ (er_perm h2))
theorem cp_perm2 {A B : va_W} {x x' y y' : Nat × va_E} (i j : Nat) (h1 : A[i]? = some x) (h2 : (A.eraseIdx i)[i]? = some x') (h3 : B[j]? = some y) (h4 : (B.eraseIdx j)[j]? = some y') : (A ++ B).Perm (([y, y'] ++ [x, x']) ++ ((A.eraseIdx i).eraseIdx i ++ (B.eraseIdx j).eraseIdx j)) := by
  refine ((er_perm2 i h1 h2).append (er_perm2 j h3 h4)).trans ?_
  generalize (A.eraseIdx i).eraseIdx i = A1
  generalize (B.eraseIdx j).eraseIdx j = B1
  have h9 : (([x, x'] ++ A1) ++ ([y, y'] ++ B1)).Perm (([y, y'] ++ [x, x']) ++ (A1 ++ B1)) := by
    simp only [List.append_assoc]
    refine (List.Perm.append_left [x, x'] (List.perm_append_comm_assoc A1 [y, y'] B1)).trans ?_
    exact List.perm_append_comm_assoc [x, x'] [y, y'] (A1 ++ B1)
  exact h9
theorem cp_back2 {A A' B : va_W} {x x' y y' : Nat × va_E} (i j : Nat) (h1 : A'[i]? = some x) (h2 : (A'.eraseIdx i)[i]? = some x') (h0 : (A'.eraseIdx i).eraseIdx i = (A.eraseIdx i).eraseIdx i) (h3 : B[j]? = some y) (h4 : (B.eraseIdx j)[j]? = some y') : (([y, y'] ++ [x, x']) ++ ((A.eraseIdx i).eraseIdx i ++ (B.eraseIdx j).eraseIdx j)).Perm (A' ++ B) := by
  rw [← h0]
  exact (cp_perm2 i j h1 h2 h3 h4).symm
theorem nar_z {x : Nat} (h : x ≤ 1) : narrow .boolean (.int (nI x)) = .int (nI x) ∧ fits .boolean (.int (nI x)) = true := by
  match x, h with
  | 0, _ => exact ⟨rfl, rfl⟩
  | 1, _ => exact ⟨rfl, rfl⟩
  | j + 2, h => exact absurd h (by omega)
theorem filter_all {α : Type} : ∀ l : List α, (List.range l.length).filterMap (fun i => l[i]?) = l
  | [] => rfl
  | a :: t => by
    rw [List.length_cons, List.range_succ_eq_map, List.filterMap_cons, List.filterMap_map]
    show a :: (List.range t.length).filterMap ((fun i => (a :: t)[i]?) ∘ Nat.succ) = a :: t
    have : ((fun i => (a :: t)[i]?) ∘ Nat.succ) = fun i => t[i]? := funext fun i => by simp
    rw [this, filter_all t]
theorem permI {α : Type} {l l2 : List α} {n : Nat} (is : List Nat) (h0 : is.Perm (List.range n)) (hn : l.length = n) (h : is.filterMap (fun i => l[i]?) = l2) : l.Perm l2 := by
  subst hn h
  have := h0.symm.filterMap (fun i => l[i]?)
  rwa [filter_all] at this
