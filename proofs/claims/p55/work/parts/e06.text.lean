/-! ===== texts: digits, the letters of the output; more rows ===== -/
section VTEXT
variable {X : xC} {cc : ByteArray} {own : String} {d mc ms : Nat} {k n : Nat} {ws : va_W} {L : List (Option Value)} {st : List Value} {pc pc' : Nat}
theorem r_i2c_N {a : Nat} (hX : Ok SF X cc own d mc ms) (hd : decode cc pc = .ok (.i2c, 1)) (ha : a < 256) (hp : pc + 1 = pc') (h : V X k n ws L (.int (nI a) :: st) pc') : V X k n ws L (.int (nI a) :: st) pc := by
  obtain ⟨p, l, e, R, s, m, args, below, meth, c, nL, G, A, Q⟩ := X
  obtain ⟨hx, hb, hown, hts, hK, hA, hlk, hml, hR, hsf, hNw⟩ := hX
  subst hp
  intro H locs ls hP hD hS hl
  exact lv_i2c hx hb hd (sb_byte a ha).2.1 (h H locs ls hP hD hS hl)
end VTEXT
/-- the powers of ten that a number's writing goes down by -/
def pw : Nat → Nat
  | 0 => 0
  | 1 => 1
  | 2 => 10
  | 3 => 100
  | 4 => 1000
  | 5 => 10000
  | _ => 100000
theorem pw_div : ∀ {k : Nat}, k < 6 → pw k / 10 = pw (k - 1)
  | 0, _ => rfl
  | 1, _ => rfl
  | 2, _ => rfl
  | 3, _ => rfl
  | 4, _ => rfl
  | 5, _ => rfl
  | k + 6, h => absurd h (by omega)
theorem pw_le : ∀ {k : Nat}, k < 6 → pw k ≤ 10000
  | 0, _ => by decide
  | 1, _ => by decide
  | 2, _ => by decide
  | 3, _ => by decide
  | 4, _ => by decide
  | 5, _ => by decide
  | k + 6, h => absurd h (by omega)
theorem pw_gt : ∀ {k : Nat}, k < 6 → (0 < pw k ↔ 0 < k) ∧ (1 < pw k ↔ 1 < k)
  | 0, _ => by decide
  | 1, _ => by decide
  | 2, _ => by decide
  | 3, _ => by decide
  | 4, _ => by decide
  | 5, _ => by decide
  | k + 6, h => absurd h (by omega)
def ndg (n : Nat) : Nat := if n < 10 then 1 else if n < 100 then 2 else if n < 1000 then 3 else if n < 10000 then 4 else 5
theorem ndg_is {v : Nat} : ∀ {k : Nat}, 1 ≤ k → k < 6 → v < pw (k + 1) → (k = 1 ∨ pw k ≤ v) → ndg v = k
  | 0, h, _, _, _ => absurd h (by omega)
  | 1, _, _, h, _ => by
    have h9 : v < 10 := h
    unfold ndg
    rw [if_pos h9]
  | 2, _, _, h, g => by
    have h9 : v < 100 := h
    have g9 : 10 ≤ v := g.resolve_left (by omega)
    unfold ndg
    rw [if_neg (by omega), if_pos h9]
  | 3, _, _, h, g => by
    have h9 : v < 1000 := h
    have g9 : 100 ≤ v := g.resolve_left (by omega)
    unfold ndg
    rw [if_neg (by omega), if_neg (by omega), if_pos h9]
  | 4, _, _, h, g => by
    have h9 : v < 10000 := h
    have g9 : 1000 ≤ v := g.resolve_left (by omega)
    unfold ndg
    rw [if_neg (by omega), if_neg (by omega), if_neg (by omega), if_pos h9]
  | 5, _, _, h, g => by
    have g9 : 10000 ≤ v := g.resolve_left (by omega)
    unfold ndg
    rw [if_neg (by omega), if_neg (by omega), if_neg (by omega), if_neg (by omega)]
  | k + 6, _, h, _, _ => absurd h (by omega)
theorem ndg_le (n : Nat) : 1 ≤ ndg n ∧ ndg n ≤ 5 := by
  unfold ndg
  split
  · omega
  · split
    · omega
    · split
      · omega
      · split <;> omega
theorem ndg_2 {n : Nat} (h : n < 100) : ndg n ≤ 2 := by
  unfold ndg
  split
  · omega
  · first | omega | (split <;> omega)
theorem ndg_4 {n : Nat} (h : n < 10000) : ndg n ≤ 4 := by
  unfold ndg
  split
  · omega
  · first | omega | (split <;> first | omega | (split <;> first | omega | (split <;> omega)))
/-- the last k digits -/
def dgk (n : Nat) : Nat → List Nat
  | 0 => []
  | k + 1 => (48 + n / pw (k + 1) % 10) :: dgk n k
theorem dgk_s {n k : Nat} (h : 0 < k) : dgk n k = (48 + n / pw k % 10) :: dgk n (k - 1) := by
  obtain ⟨j, rfl⟩ : ∃ j, k = j + 1 := ⟨k - 1, by omega⟩
  rfl
theorem dgk_len {n : Nat} : ∀ k, (dgk n k).length = k
  | 0 => rfl
  | k + 1 => by rw [dgk, List.length_cons, dgk_len k]
def dgs (n : Nat) : List Nat := dgk n (ndg n)
theorem dgs_len (n : Nat) : (dgs n).length = ndg n := dgk_len _
theorem getD_at {t : List Nat} {i d : Nat} (h : i < t.length) : t.getD i d = t[i] := by simp [List.getD_eq_getElem?_getD, h]
/-- le holds the letters t -/
def LT (le : Nat → Nat) (t : List Nat) : Prop := ∀ i, (h : i < t.length) → le i = t[i]
theorem LT_push {le : Nat → Nat} {t : List Nat} {c j : Nat} (h : LT le t) (hj : j = t.length) : LT (up1 le j c) (t ++ [c]) := by
  subst hj
  intro i hi
  rw [List.length_append, List.length_singleton] at hi
  by_cases e : i = t.length
  · subst e
    rw [up1_s, List.getElem_append_right (Nat.le_refl _)]
    simp
  · rw [up1_ne e, List.getElem_append_left (by omega)]
    exact h i (by omega)
/-- the model's numbers r1 and letters l1 hold the text t; the other numbers are r's -/
def TX (r r1 l1 : Nat → Nat) (t : List Nat) : Prop := (∀ j, j ≠ 3 → r1 j = r j) ∧ r1 3 = t.length ∧ LT l1 t
theorem TX_0 {r le : Nat → Nat} : TX r (up1 r 3 0) le [] := ⟨fun _ h => up1_ne h, up1_s, fun i h => absurd h (Nat.not_lt_zero _)⟩
theorem TX_put {r r1 l1 : Nat → Nat} {t : List Nat} {c : Nat} (h : TX r r1 l1 t) : TX r (up1 r1 3 (r1 3 + 1)) (up1 l1 (r1 3) c) (t ++ [c]) :=
  ⟨fun j hj => (up1_ne hj).trans (h.1 j hj), by rw [up1_s, h.2.1, List.length_append]; rfl, LT_push h.2.2 h.2.1⟩
def stH (v : SV) : List Nat := (((([] ++ [99]) ++ dgs (v 3 0)) ++ [116]) ++ dgs (v 3 1)) ++ [115] ++ dgs (v 3 2)
/-- the store's text, with the first i moulds -/
def stT (v : SV) : Nat → List Nat
  | 0 => stH v
  | i + 1 => (((stT v i ++ [32]) ++ dgs (v 1 i)) ++ [120]) ++ dgs (v 2 i)
/-- a batch's text, with the first k squeaks -/
def btT (v : SV) (p : Nat) : Nat → List Nat
  | 0 => ([] ++ dgs (v (13 + p) 0)) ++ [if v (13 + p) 4 = 1 then 33 else 63]
  | k + 1 => (btT v p k ++ [if k = 0 then 58 else 44]) ++ dgs (v (21 + p) k)
theorem Rr.stk {v : SV} {g : Nat → Nat} (h : Rr v g) {i : Nat} (hi : i < 3) : g i = v 3 i := h 3 i (Or.inr (Or.inr (Or.inl ⟨by omega, hi⟩)))
theorem stT_len {v : SV} (h3 : ∀ j, j < 3 → v 3 j < 10000) (h4 : ∀ i, i < 4 → v 1 i < 100 ∧ v 2 i < 100) : ∀ i, i ≤ 4 → (stT v i).length ≤ 15 + 6 * i
  | 0, _ => by
    have a0 := ndg_4 (h3 0 (by decide))
    have a1 := ndg_4 (h3 1 (by decide))
    have a2 := ndg_4 (h3 2 (by decide))
    show (stH v).length ≤ 15
    unfold stH
    simp only [List.length_append, List.length_cons, List.length_nil, dgs_len]
    omega
  | i + 1, h => by
    have ih := stT_len h3 h4 i (by omega)
    have b1 := ndg_2 (h4 i (by omega)).1
    have b2 := ndg_2 (h4 i (by omega)).2
    rw [stT]
    simp only [List.length_append, List.length_cons, List.length_nil, dgs_len]
    omega
theorem btT_len {v : SV} {p n : Nat} (hq : ∀ k, k < n → v (21 + p) k < 100) : ∀ k, k ≤ n → (btT v p k).length ≤ 6 + 3 * k
  | 0, _ => by
    have a0 := ndg_le (v (13 + p) 0)
    rw [btT]
    simp only [List.length_append, List.length_cons, List.length_nil, dgs_len]
    omega
  | k + 1, h => by
    have ih := btT_len hq k (by omega)
    have b1 := ndg_2 (hq k (by omega))
    rw [btT]
    simp only [List.length_append, List.length_cons, List.length_nil, dgs_len]
    omega
def aOut (S : AS) (t : List Nat) : AS := (S.1, S.2.1, S.2.2.1, S.2.2.2.1, t, S.2.2.2.2.2)
def aBuf (S : AS) (t : List Nat) : AS := (S.1, S.2.1, S.2.2.1, t, S.2.2.2.2)
def qRb (v : SV) (x : Int32) : Int32 := if plc v x.toInt < v 0 4 then nI (btT v (plc v x.toInt) (v (13 + plc v x.toInt) 2)).length else -5
def aRb (S : AS) (x : Int32) : AS := if plc S.1 x.toInt < S.1 0 4 then aOut S (btT S.1 (plc S.1 x.toInt) (S.1 (13 + plc S.1 x.toInt) 2)) else S
def qOut (S : AS) (x : Int32) : Int32 := if inR x S.2.2.2.2.1.length then nI (S.2.2.2.2.1.getD (tn x) 0) else -1
def qType (S : AS) (c : Nat) : Int32 := if 32 ≤ c ∧ c ≤ 126 then if S.2.2.2.1.length < 60 then nI (S.2.2.2.1.length + 1) else -3 else -2
def aType (S : AS) (c : Nat) : AS := if 32 ≤ c ∧ c ≤ 126 then if S.2.2.2.1.length < 60 then aBuf S (S.2.2.2.1 ++ [c]) else S else S
section MST
variable {cy : Nat → ClassId} {ma : Nat → Nat} {S : AS} {t : Nat} {r : Nat → Nat} {e : Nat → Int32} {g bf hy sv bu le : Nat → Nat} {pa : Nat → Int32}
theorem MS_out (hM : r 4 = t ∧ Rr S.1 g ∧ r 0 = S.2.1.length ∧ S.2.1.length ≤ 8 ∧ HR S.2.1 hy ∧
    ((r 1 = 0 ∧ S.2.2.1 = none) ∨ (r 1 = 1 ∧ ∃ s, S.2.2.1 = some s ∧ Rr s sv)) ∧
    (r 2 = S.2.2.2.1.length ∧ S.2.2.2.1.length ≤ 60 ∧ ∀ i, (h : i < S.2.2.2.1.length) → bu i = S.2.2.2.1[i]) ∧
    (r 3 = S.2.2.2.2.1.length ∧ S.2.2.2.2.1.length ≤ 60 ∧ ∀ i, (h : i < S.2.2.2.2.1.length) → le i = S.2.2.2.2.1[i]) ∧
    e 0 = S.2.2.2.2.2.1 ∧ e 1 = S.2.2.2.2.2.2) {r1 l1 : Nat → Nat} {tx : List Nat} (hT : TX r r1 l1 tx) (h60 : tx.length ≤ 60) {z : Nat} : MS cy ma (aOut S tx) z (wM cy ma (up1 r1 4 z) e g bf hy sv bu l1 pa) := by
  obtain ⟨h4, hR, h0, h8, hH, hS, hB, hO, hE⟩ := hM
  obtain ⟨q1, q2, q3⟩ := hT
  refine ⟨_, _, _, _, _, _, _, _, _, rfl, up1_s, hR, ?_, h8, hH, ?_, ?_, ⟨?_, h60, q3⟩, hE⟩
  · rw [up1_ne (by decide), q1 0 (by decide)]; exact h0
  · rw [up1_ne (by decide), q1 1 (by decide)]; exact hS
  · rw [up1_ne (by decide), q1 2 (by decide)]; exact hB
  · rw [up1_ne (by decide)]; exact q2
theorem MS_type (hM : r 4 = t ∧ Rr S.1 g ∧ r 0 = S.2.1.length ∧ S.2.1.length ≤ 8 ∧ HR S.2.1 hy ∧
    ((r 1 = 0 ∧ S.2.2.1 = none) ∨ (r 1 = 1 ∧ ∃ s, S.2.2.1 = some s ∧ Rr s sv)) ∧
    (r 2 = S.2.2.2.1.length ∧ S.2.2.2.1.length ≤ 60 ∧ ∀ i, (h : i < S.2.2.2.1.length) → bu i = S.2.2.2.1[i]) ∧
    (r 3 = S.2.2.2.2.1.length ∧ S.2.2.2.2.1.length ≤ 60 ∧ ∀ i, (h : i < S.2.2.2.2.1.length) → le i = S.2.2.2.2.1[i]) ∧
    e 0 = S.2.2.2.2.2.1 ∧ e 1 = S.2.2.2.2.2.2) {c : Nat} (h60 : r 2 < 60) : MS cy ma (aBuf S (S.2.2.2.1 ++ [c])) 0 (wM cy ma (up1 (up1 r 2 (r 2 + 1)) 4 0) e g bf hy sv (up1 bu (r 2) c) le pa) := by
  obtain ⟨h4, hR, h0, h8, hH, hS, ⟨b1, b2, b3⟩, hO, hE⟩ := hM
  refine ⟨_, _, _, _, _, _, _, _, _, rfl, up1_s, hR, h0, h8, hH, hS, ⟨?_, ?_, LT_push b3 b1⟩, hO, hE⟩
  · show r 2 + 1 = (S.2.2.2.1 ++ [c]).length
    rw [List.length_append, b1]; rfl
  · show (S.2.2.2.1 ++ [c]).length ≤ 60
    rw [List.length_append, List.length_singleton]; omega
end MST
