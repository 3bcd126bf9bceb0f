/-! ===== the pure words: sums, counts, the passing of a batch ===== -/
def sumT (f : Nat → Nat) : Nat → Nat
  | 0 => 0
  | n + 1 => sumT f n + f n
theorem sumT_bd {f : Nat → Nat} {c : Nat} : ∀ {n : Nat}, (∀ i, i < n → f i ≤ c) → sumT f n ≤ n * c
  | 0, _ => by rw [Nat.zero_mul]; exact Nat.le_refl _
  | n + 1, h => by
    have h1 := sumT_bd (n := n) (fun i hi => h i (by omega))
    have h2 := h n (by omega)
    rw [sumT, Nat.add_mul, Nat.one_mul]
    omega
theorem sumT_le (f : Nat → Nat) {n : Nat} (h : ∀ i, i < n → f i ≤ 99) : sumT f n ≤ n * 99 := sumT_bd h
/-- how many of the sampled of the first n bows have squeaks of at most t: every s-th is sampled -/
def cG (sq : Nat → Nat) (s t : Nat) : Nat → Nat
  | 0 => 0
  | n + 1 => cG sq s t n + if n % s = 0 ∧ sq n ≤ t then 1 else 0
theorem cG_succ {sq : Nat → Nat} {s t n : Nat} : cG sq s t (n + 1) = cG sq s t n + if n % s = 0 ∧ sq n ≤ t then 1 else 0 := rfl
theorem cG_le {sq : Nat → Nat} {s t : Nat} : ∀ n, cG sq s t n ≤ n
  | 0 => Nat.le_refl _
  | n + 1 => by
    have := cG_le (sq := sq) (s := s) (t := t) n
    rw [cG_succ]
    split <;> omega
/-- a batch of n bows passes with step s and tolerance t -/
abbrev pas (sq : Nat → Nat) (n s t : Nat) : Prop := cG sq s 99 n < 2 * cG sq s t n
def lps (sq : Nat → Nat) (n s : Nat) : Nat → Nat
  | 0 => 99
  | i + 1 => if i % s = 0 ∧ sq i < lps sq n s i ∧ pas sq n s (sq i) then sq i else lps sq n s i
theorem lps_succ {sq : Nat → Nat} {n s i : Nat} : lps sq n s (i + 1) = if i % s = 0 ∧ sq i < lps sq n s i ∧ pas sq n s (sq i) then sq i else lps sq n s i := rfl
theorem lps_le {sq : Nat → Nat} {n s : Nat} : ∀ i, lps sq n s i ≤ 99
  | 0 => Nat.le_refl _
  | i + 1 => by
    have := lps_le (sq := sq) (n := n) (s := s) i
    rw [lps_succ]
    split <;> omega
/-- the least t below n with p t, or n -/
def lst (p : Nat → Prop) [DecidablePred p] : Nat → Nat
  | 0 => 0
  | n + 1 => if lst p n < n then lst p n else if p n then n else n + 1
theorem lst_no {p : Nat → Prop} [DecidablePred p] : ∀ {n : Nat}, (∀ j, j < n → ¬ p j) → lst p n = n
  | 0, _ => rfl
  | n + 1, h => by
    have h1 := lst_no (n := n) (fun j hj => h j (by omega))
    rw [lst, if_neg (by omega), if_neg (h n (by omega))]
theorem lst_at {p : Nat → Prop} [DecidablePred p] {i : Nat} (hp : p i) (hn : ∀ j, j < i → ¬ p j) : ∀ {n : Nat}, i < n → lst p n = i
  | 0, h => absurd h (Nat.not_lt_zero _)
  | n + 1, h => by
    by_cases e : i = n
    · subst e
      rw [lst, if_neg (by rw [lst_no hn]; omega), if_pos hp]
    · have := lst_at hp hn (n := n) (by omega)
      rw [lst, if_pos (by omega), this]
theorem lst_le {p : Nat → Prop} [DecidablePred p] : ∀ (n : Nat), lst p n ≤ n
  | 0 => Nat.le_refl _
  | n + 1 => by
    have := lst_le (p := p) n
    rw [lst]
    split
    · omega
    · split <;> omega
theorem lst_spec {p : Nat → Prop} [DecidablePred p] {n : Nat} (h : lst p n < n) : p (lst p n) := by
  induction n with
  | zero => exact absurd h (Nat.not_lt_zero _)
  | succ n ih =>
    by_cases q : lst p n < n
    · have e : lst p (n + 1) = lst p n := by rw [lst, if_pos q]
      rw [e]
      exact ih q
    · by_cases z : p n
      · have e : lst p (n + 1) = n := by rw [lst, if_neg q, if_pos z]
        rw [e]
        exact z
      · have e : lst p (n + 1) = n + 1 := by rw [lst, if_neg q, if_neg z]
        omega
theorem lst_min {p : Nat → Prop} [DecidablePred p] {n j : Nat} (h : j < lst p n) : ¬ p j := by
  induction n with
  | zero => exact absurd h (Nat.not_lt_zero _)
  | succ n ih =>
    by_cases q : lst p n < n
    · have e : lst p (n + 1) = lst p n := by rw [lst, if_pos q]
      rw [e] at h
      exact ih h
    · have e9 : lst p n = n := by have := lst_le (p := p) n; omega
      by_cases z : p n
      · have e : lst p (n + 1) = n := by rw [lst, if_neg q, if_pos z]
        exact ih (by omega)
      · have e : lst p (n + 1) = n + 1 := by rw [lst, if_neg q, if_neg z]
        by_cases w : j = n
        · rw [w]; exact z
        · exact ih (by omega)
theorem nx_eq {s i nx : Nat} (h1 : nx % s = 0) (h2 : i ≤ nx) (h3 : nx < i + s) : i = nx ↔ i % s = 0 := by
  constructor
  · rintro rfl
    exact h1
  · intro h
    obtain ⟨k, rfl⟩ := Nat.dvd_of_mod_eq_zero h
    obtain ⟨j, rfl⟩ := Nat.dvd_of_mod_eq_zero h1
    have hs : 0 < s := by omega
    have a : k ≤ j := Nat.le_of_mul_le_mul_left h2 hs
    have b : s * j < s * (k + 1) := by rw [Nat.mul_add, Nat.mul_one]; exact h3
    have c : j < k + 1 := Nat.lt_of_mul_lt_mul_left b
    have : k = j := by omega
    rw [this]
/-- within 0 and n -/
abbrev inR (x : Int32) (n : Nat) : Prop := 0 ≤ x.toInt ∧ x.toInt < (n : Int)
/-- an int as a number -/
def tn (x : Int32) : Nat := x.toInt.toNat
theorem tn_nI {j : Nat} (h : j < 2147483648) : tn (nI j) = j := by
  unfold tn
  rw [nI_toInt h]
  rfl
theorem inR_nI {j n : Nat} (h : j < 2147483648) : inR (nI j) n ↔ j < n := by
  unfold inR
  rw [nI_toInt h]
  omega
/-- how many of the first n -/
def cnt (p : Nat → Prop) [DecidablePred p] : Nat → Nat
  | 0 => 0
  | n + 1 => cnt p n + if p n then 1 else 0
theorem cnt_succ {p : Nat → Prop} [DecidablePred p] {n : Nat} : cnt p (n + 1) = cnt p n + if p n then 1 else 0 := rfl
theorem cnt_le {p : Nat → Prop} [DecidablePred p] : ∀ n, cnt p n ≤ n
  | 0 => Nat.le_refl _
  | n + 1 => by
    have := cnt_le (p := p) n
    rw [cnt_succ]
    split <;> omega
/-! of a State's numbers -/
abbrev SV : Type := Nat → Nat → Nat
theorem up2_at {v : SV} {b i i' x : Nat} (h : i' ≠ i) : up2 v b i x b i' = v b i' := by
  unfold up2 up1
  rw [if_pos rfl, if_neg h]
theorem up2_s {v : SV} {b i x : Nat} : up2 v b i x b i = x := by
  unfold up2 up1
  rw [if_pos rfl, if_pos rfl]
/-- the place of the batch with number x -/
def plc (v : SV) (x : Int) : Nat := lst (fun i => (v (13 + i) 0 : Int) = x) (v 0 4)
/-- the place of the batch with bow x -/
def plb (v : SV) (x : Int) : Nat := lst (fun i => (v (13 + i) 1 : Int) ≤ x ∧ x < (v (13 + i) 1 : Int) + (v (13 + i) 2 : Int)) (v 0 4)
def sqk (v : SV) (a m : Nat) : Nat := (7 * v (7 + a) 0 + 11 * v (7 + a) 1 + 3 * v (7 + a) 2 + 5 * v 1 m + 13 * v 2 m) % 100
def bst (v : SV) (a : Nat) : Nat → Nat
  | 0 => 2147483647
  | m + 1 => if 0 < v (7 + a) m then min (bst v a m) (v 3 m / v (7 + a) m) else bst v a m
def mib (v : SV) (m : Nat) : Nat → Nat
  | 0 => 0
  | i + 1 => mib v m i + v (13 + i) 2 * v (7 + v (13 + i) 3) m
def sumB (v : SV) (i : Nat) : Nat := sumT (v (21 + i)) (v (13 + i) 2)
def rnk (v : SV) (n i : Nat) : Nat := cnt (fun j => sumB v j < sumB v i ∨ (sumB v j = sumB v i ∧ j < i)) n
def boo (v : SV) (m : Nat) : Int32 := nI (v 4 m) - nI (v 3 m) - nI (v 5 m) - nI (v 6 m)
abbrev tolA (v : SV) : Prop := ∀ i, i < v 0 4 → lps (v (21 + i)) (v (13 + i) 2) (v 0 3) (v (13 + i) 2) = lst (pas (v (21 + i)) (v (13 + i) 2) (v 0 3)) 99
abbrev metA (v : SV) : Prop := ∀ m, m < 3 → nI (mib v m (v 0 4)) = boo v m
abbrev bowA (v : SV) : Prop := v 0 6 = v 0 7 + v 0 8 + sumT (fun i => v (13 + i) 2) (v 0 4)
/-- what the class's code leans on -/
def Wf (v : SV) : Prop := v 0 0 ≤ 6 ∧ v 0 1 ≤ 4 ∧ v 0 4 ≤ 8 ∧ (1 ≤ v 0 3 ∧ v 0 3 ≤ 5) ∧ v 0 2 ≤ 99 ∧ (v 0 5 < 1000000 ∧ v 0 6 < 1000000 ∧ v 0 7 < 1000000 ∧ v 0 8 < 1000000) ∧
  (∀ i, i < v 0 4 → (1 ≤ v (13 + i) 2 ∧ v (13 + i) 2 ≤ 9) ∧ v (13 + i) 3 < v 0 0 ∧ v (13 + i) 4 ≤ 1 ∧ v (13 + i) 0 < 1000000 ∧ v (13 + i) 1 < 1000000 ∧ ∀ k, k < v (13 + i) 2 → v (21 + i) k ≤ 99) ∧
  (∀ i j, i < 6 → j < 3 → v (7 + i) j ≤ 9) ∧ (∀ i, i < 4 → v 1 i ≤ 50 ∧ v 2 i ≤ 20) ∧ (∀ j, j < 3 → v 3 j ≤ 3000) ∧ ∀ a, a < v 0 0 → 1 ≤ v (7 + a) 0 + v (7 + a) 1 + v (7 + a) 2
theorem rB1 {c : Prop} [Decidable c] (h : c) : some (Value.int (nI 1)) = some (Value.int (bI c)) := by rw [bI_t h]; rfl
theorem rB0 {c : Prop} [Decidable c] (h : ¬ c) : some (Value.int (nI 0)) = some (Value.int (bI c)) := by rw [bI_f h]; rfl
theorem rN {a b : Nat} (h : a = b) : some (Value.int (nI a)) = some (Value.int (nI b)) := by rw [h]
theorem rI {a b : Int32} (h : a = b) : some (Value.int a) = some (Value.int b) := by rw [h]
theorem bI_nar {c : Prop} [Decidable c] : narrow .boolean (.int (bI c)) = .int (bI c) := by
  unfold bI
  split <;> rfl
theorem iinc_sub {a b : Nat} {z : Int} (hz : Int32.ofInt z = - nI b) (h : b ≤ a) : nI a + Int32.ofInt z = nI (a - b) := by
  rw [hz, ← pk_sub h]
  exact (Int32.sub_eq_add_neg _ _).symm
/-! the changes of a State: what they answer, and what becomes of its numbers -/
def oMix (v : SV) (x y z : Int32) : Int32 × SV :=
  if inR x 10 ∧ inR y 10 ∧ inR z 10 ∧ 1 ≤ tn x + tn y + tn z then
    if v 0 0 < 6 then (nI (v 0 0), up2 (up2 (up2 (up2 v (7 + v 0 0) 0 (tn x)) (7 + v 0 0) 1 (tn y)) (7 + v 0 0) 2 (tn z)) 0 0 (v 0 0 + 1)) else (-3, v)
  else (-2, v)
def oMould (v : SV) (x : Int32) : Int32 × SV :=
  if 1 ≤ x.toInt ∧ x.toInt ≤ 50 then
    if v 0 1 < 4 then (nI (v 0 1), up2 (up2 (up2 v 1 (v 0 1) (tn x)) 2 (v 0 1) 0) 0 1 (v 0 1 + 1)) else (-3, v)
  else (-2, v)
def oBuy (v : SV) (x y : Int32) : Int32 × SV :=
  if inR x 3 then
    if 1 ≤ y.toInt ∧ y.toInt ≤ 99 then
      if v 3 (tn x) + tn y ≤ 999 then (nI (v 3 (tn x) + tn y), up2 (up2 v 3 (tn x) (v 3 (tn x) + tn y)) 4 (tn x) (v 4 (tn x) + tn y)) else (-3, v)
    else (-2, v)
  else (-1, v)
def oReset (v : SV) (x : Int32) : Int32 × SV := if inR x (v 0 1) then (nI (v 2 (tn x)), up2 v 2 (tn x) 0) else (-1, v)
def oTol (v : SV) (x : Int32) : Int32 × SV := if 0 ≤ x.toInt ∧ x.toInt ≤ 99 then (nI (v 0 2), up2 v 0 2 (tn x)) else (-2, v)
def oStep (v : SV) (x : Int32) : Int32 × SV := if 1 ≤ x.toInt ∧ x.toInt ≤ 5 then (nI (v 0 3), up2 v 0 3 (tn x)) else (-2, v)
/-- the metal of n bows of alloy a taken from the store -/
def dStk (v : SV) (a n : Nat) : Nat → SV
  | 0 => v
  | m + 1 => up2 (dStk v a n m) 3 m (dStk v a n m 3 m - n * dStk v a n m (7 + a) m)
def filB (v : SV) (i a n : Nat) : SV := up2 (up2 (up2 (up2 (up2 v (13 + i) 0 (v 0 5)) (13 + i) 1 (v 0 6)) (13 + i) 2 n) (13 + i) 3 a) (13 + i) 4 0
def filL (v : SV) (i a m : Nat) : Nat → SV
  | 0 => v
  | k + 1 => up2 (up2 (filL v i a m k) (21 + i) k (sqk (filL v i a m k) a m)) 2 m (filL v i a m k 2 m + 1)
def fil (v : SV) (i a m n : Nat) : SV := filL (filB v i a n) i a m n
def pourF (w : SV) (n : Nat) : SV := up2 (up2 (up2 w 0 4 (w 0 4 + 1)) 0 6 (w 0 6 + n)) 0 5 (w 0 5 + 1)
def oPour (v : SV) (x y z : Int32) : Int32 × SV :=
  if inR x (v 0 0) ∧ inR y (v 0 1) then
    if 1 ≤ z.toInt ∧ z.toInt ≤ 9 then
      if v 0 4 < 8 ∧ v 2 (tn y) + tn z ≤ 20 then
        if tn z ≤ bst v (tn x) 3 then (nI (v 0 5), pourF (fil (dStk v (tn x) (tn z) 3) (v 0 4) (tn x) (tn y) (tn z)) (tn z)) else (-4, v)
      else (-3, v)
    else (-2, v)
  else (-1, v)
/-- where batch i stands after the p-th of n is taken out, and kept as the last of them -/
def rot (n p i : Nat) : Nat := if i < p then i else if i + 1 < n then i + 1 else if i + 1 = n then p else i
def rmv (v : SV) (p : Nat) : SV := fun b => if 13 ≤ b ∧ b < 21 then v (13 + rot (v 0 4) p (b - 13)) else if 21 ≤ b ∧ b < 29 then v (21 + rot (v 0 4) p (b - 21)) else up2 v 0 4 (v 0 4 - 1) b
def exS (v : SV) (p : Nat) : Nat → SV
  | 0 => v
  | m + 1 => up2 (exS v p m) 5 m (exS v p m 5 m + exS v p m (13 + p) 2 * exS v p m (7 + exS v p m (13 + p) 3) m)
def exT (w : SV) (p : Nat) : SV := up2 w 0 7 (w 0 7 + w (13 + p) 2)
def oExam (v : SV) (x : Int32) : Int32 × SV :=
  if plc v x.toInt < v 0 4 then
    if v (13 + plc v x.toInt) 4 = 0 then
      if pas (v (21 + plc v x.toInt)) (v (13 + plc v x.toInt) 2) (v 0 3) (v 0 2) then (nI 1, rmv (exT (exS v (plc v x.toInt) 3) (plc v x.toInt)) (plc v x.toInt))
      else (nI 0, up2 v (13 + plc v x.toInt) 4 1)
    else (-3, v)
  else (-5, v)
def meB (v : SV) (p m : Nat) : Nat := v (13 + p) 2 * (v (7 + v (13 + p) 3) m - 1)
def meL (v : SV) (p : Nat) : Nat → SV
  | 0 => v
  | m + 1 => up2 (up2 (meL v p m) 3 m (meL v p m 3 m + meB (meL v p m) p m)) 6 m (meL v p m 6 m + (meL v p m (13 + p) 2 * meL v p m (7 + meL v p m (13 + p) 3) m - meB (meL v p m) p m))
def meR (v : SV) (p : Nat) : Nat → Nat
  | 0 => 0
  | m + 1 => meR v p m + meB (meL v p m) p m
def meT (w : SV) (p : Nat) : SV := up2 w 0 8 (w 0 8 + w (13 + p) 2)
def oMelt (v : SV) (x : Int32) : Int32 × SV :=
  if plc v x.toInt < v 0 4 then
    if ¬ v (13 + plc v x.toInt) 4 = 0 then (nI (meR v (plc v x.toInt) 3), rmv (meT (meL v (plc v x.toInt) 3) (plc v x.toInt)) (plc v x.toInt))
    else (-3, v)
  else (-5, v)