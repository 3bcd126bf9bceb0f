/-! ===== what every step of the law keeps ===== -/
theorem FB_up {v : SV} {b k x : Nat} (h : FB v) (hx : x ≤ 1 ∨ k ≠ 4 ∨ b < 13 ∨ 21 ≤ b) : FB (up2 v b k x) := by
  intro i hi
  unfold up2
  by_cases e : 13 + i = b
  · rw [if_pos e]
    unfold up1
    by_cases e2 : 4 = k
    · rw [if_pos e2]; omega
    · rw [if_neg e2, ← e]; exact h i hi
  · rw [if_neg e]; exact h i hi
theorem FB_dStk {v : SV} {a n : Nat} (h : FB v) : ∀ m, FB (dStk v a n m)
  | 0 => h
  | m + 1 => FB_up (FB_dStk h m) (by omega)
theorem FB_filB {v : SV} {i a n : Nat} (h : FB v) : FB (filB v i a n) := FB_up (FB_up (FB_up (FB_up (FB_up h (by omega)) (by omega)) (by omega)) (by omega)) (by omega)
theorem FB_filL {v : SV} {i a m : Nat} (h : FB v) : ∀ k, FB (filL v i a m k)
  | 0 => h
  | k + 1 => FB_up (FB_up (FB_filL h k) (by omega)) (by omega)
theorem FB_exS {v : SV} {p : Nat} (h : FB v) : ∀ m, FB (exS v p m)
  | 0 => h
  | m + 1 => FB_up (FB_exS h m) (by omega)
theorem FB_meL {v : SV} {p : Nat} (h : FB v) : ∀ m, FB (meL v p m)
  | 0 => h
  | m + 1 => FB_up (FB_up (FB_meL h m) (by omega)) (by omega)
theorem FB_rmv {v : SV} {p : Nat} (h : FB v) (hn : v 0 4 ≤ 8) (hp : p < 8) : FB (rmv v p) := by
  intro i hi
  unfold rmv
  rw [if_pos (by omega), show 13 + i - 13 = i by omega]
  refine h _ ?_
  unfold rot
  repeat' split
  all_goals omega
theorem exS_n {v : SV} {p : Nat} : ∀ m, exS v p m 0 = v 0
  | 0 => rfl
  | m + 1 => by rw [exS, up2_ne (by omega), exS_n m]
theorem meL_n {v : SV} {p : Nat} : ∀ m, meL v p m 0 = v 0
  | 0 => rfl
  | m + 1 => by rw [meL, up2_ne (by omega), up2_ne (by omega), meL_n m]
theorem oMix_fb {v : SV} (h : FB v) (hv : Wf v) {x y z : Int32} : FB (oMix v x y z).2 := by
  have h6 := hv.1
  unfold oMix
  split
  · split
    · exact FB_up (FB_up (FB_up (FB_up h (by omega)) (by omega)) (by omega)) (by omega)
    · exact h
  · exact h
theorem oMould_fb {v : SV} (h : FB v) {x : Int32} : FB (oMould v x).2 := by
  unfold oMould
  split
  · split
    · exact FB_up (FB_up (FB_up h (by omega)) (by omega)) (by omega)
    · exact h
  · exact h
theorem oBuy_fb {v : SV} (h : FB v) {x y : Int32} : FB (oBuy v x y).2 := by
  unfold oBuy
  split
  · split
    · split
      · exact FB_up (FB_up h (by omega)) (by omega)
      · exact h
    · exact h
  · exact h
theorem oReset_fb {v : SV} (h : FB v) {x : Int32} : FB (oReset v x).2 := by
  unfold oReset
  split
  · exact FB_up h (by omega)
  · exact h
theorem oTol_fb {v : SV} (h : FB v) {x : Int32} : FB (oTol v x).2 := by
  unfold oTol
  split
  · exact FB_up h (by omega)
  · exact h
theorem oStep_fb {v : SV} (h : FB v) {x : Int32} : FB (oStep v x).2 := by
  unfold oStep
  split
  · exact FB_up h (by omega)
  · exact h
theorem oPour_fb {v : SV} (h : FB v) {x y z : Int32} : FB (oPour v x y z).2 := by
  unfold oPour
  split
  · split
    · split
      · split
        · exact FB_up (FB_up (FB_up (FB_filL (FB_filB (FB_dStk h 3)) _) (by omega)) (by omega)) (by omega)
        · exact h
      · exact h
    · exact h
  · exact h
theorem oExam_fb {v : SV} (h : FB v) (hv : Wf v) {x : Int32} : FB (oExam v x).2 := by
  have h8 := hv.2.2.1
  unfold oExam
  split
  · rename_i hp
    split
    · split
      · refine FB_rmv (FB_up (FB_exS h 3) (by omega)) ?_ (by omega)
        show exT (exS v (plc v x.toInt) 3) (plc v x.toInt) 0 4 ≤ 8
        unfold exT
        rw [up2_eq]
        show exS v (plc v x.toInt) 3 0 4 ≤ 8
        rw [exS_n]; exact h8
      · exact FB_up h (by omega)
    · exact h
  · exact h
theorem oMelt_fb {v : SV} (h : FB v) (hv : Wf v) {x : Int32} : FB (oMelt v x).2 := by
  have h8 := hv.2.2.1
  unfold oMelt
  split
  · rename_i hp
    split
    · refine FB_rmv (FB_up (FB_meL h 3) (by omega)) ?_ (by omega)
      show meT (meL v (plc v x.toInt) 3) (plc v x.toInt) 0 4 ≤ 8
      unfold meT
      rw [up2_eq]
      show meL v (plc v x.toInt) 3 0 4 ≤ 8
      rw [meL_n]; exact h8
    · exact h
  · exact h
theorem oC_fb {v : SV} (h : FB v) (hv : Wf v) {c : Nat × List Nat} : FB (oC c v).2 := by
  unfold oC
  repeat' split
  · exact oMix_fb h hv
  · exact oMould_fb h
  · exact oBuy_fb h
  · exact oPour_fb h
  · exact oExam_fb h hv
  · exact oMelt_fb h hv
  · exact oReset_fb h
  · exact oTol_fb h
  · exact oStep_fb h
theorem rnC_fb {K : Nat} : ∀ {cs : List (Nat × List Nat)} {v : SV} {i : Nat}, FB v → Inv K v → K + cs.length ≤ 100000 → FB (rnC cs v i).2
  | [], v, i, h, _, _ => h
  | c :: cs, v, i, h, hI, hK => by
    have hK' : K + (cs.length + 1) ≤ 100000 := hK
    have h1 := oC_fb (c := c) h hI.1
    have h2 := oC_inv (c := c) hI (by omega)
    by_cases q : (oC c v).1.toInt < 0
    · rw [rnC_no q]; exact h1
    · rw [rnC_on q]; exact rnC_fb h1 h2 (by omega)
/-- what the law's loop keeps of the abstract state -/
def AJ (K : Nat) (S : AS) : Prop := AI K S ∧ (∀ c ∈ S.2.2.2.2.1, c < 256) ∧ (S.2.2.2.2.2.1 = -1 ∨ 0 ≤ (S.2.2.2.2.2.1).toInt) ∧ (S.2.2.2.2.2.2 = -1 ∨ 0 ≤ (S.2.2.2.2.2.2).toInt)
theorem AJ.mono {K J : Nat} {S : AS} (h : AJ K S) (hj : K ≤ J) : AJ J S := by
  obtain ⟨⟨⟨h1, h2⟩, h3, h4, h5⟩, h6⟩ := h
  exact ⟨⟨⟨h1.mono hj, h2⟩, fun x hx => ⟨(h3 x hx).1.mono hj, (h3 x hx).2⟩, fun x hx => ⟨(h4 x hx).1.mono hj, (h4 x hx).2⟩, h5⟩, h6⟩
theorem AJ.adv {K : Nat} {S : AS} {w : SV} (h : AJ K S) (hw : Inv K w ∧ FB w) : AJ K (w, (S.1 :: S.2.1).take 8, S.2.2) := by
  obtain ⟨⟨h1, h3, h4, h5⟩, h6⟩ := h
  refine ⟨⟨hw, fun x hx => ?_, h4, h5⟩, h6⟩
  rcases List.mem_cons.mp (List.mem_of_mem_take hx) with rfl | hx
  · exact h1
  · exact h3 x hx
theorem AJ.mut {K : Nat} {S : AS} {o : Int32 × SV} (h : AJ K S) (hw : Inv (K + 1) o.2 ∧ FB o.2) : AJ (K + 1) (aMut S o) := by
  unfold aMut
  split
  · exact h.mono (by omega)
  · exact (h.mono (K := K) (J := K + 1) (by omega)).adv hw
theorem AJ.out {K : Nat} {S : AS} {t : List Nat} (h : AJ K S) (ht : ∀ c ∈ t, c < 256) : AJ K (aOut S t) := ⟨h.1, ht, h.2.2⟩
theorem AJ.buf {K : Nat} {S : AS} {t : List Nat} (h : AJ K S) (ht : ∀ c ∈ t, c < 127) : AJ K (aBuf S t) := ⟨⟨h.1.1, h.1.2.1, h.1.2.2.1, ht⟩, h.2⟩
theorem AJ.type {K c : Nat} {S : AS} (h : AJ K S) : AJ K (aType S c) := by
  unfold aType
  split
  · rename_i hc
    split
    · refine h.buf (fun d hd => ?_)
      rcases List.mem_append.mp hd with hd | hd
      · exact h.1.2.2.2 d hd
      · cases List.mem_singleton.mp hd; omega
    · exact h
  · exact h
theorem AJ.undo {K : Nat} {S : AS} (h : AJ K S) : AJ K (aUndo S) := by
  obtain ⟨v, us, r⟩ := S
  cases us with
  | nil => exact h
  | cons a us =>
    obtain ⟨⟨h1, h3, h4, h5⟩, h6⟩ := h
    exact ⟨⟨h3 a List.mem_cons_self, fun x hx => h3 x (List.mem_cons_of_mem _ hx), h4, h5⟩, h6⟩
theorem AJ.save {K : Nat} {S : AS} (h : AJ K S) : AJ K (aSave S) := by
  obtain ⟨⟨h1, h3, h4, h5⟩, h6⟩ := h
  exact ⟨⟨h1, h3, fun x hx => by cases hx; exact h1, h5⟩, h6⟩
theorem AJ.rest {K : Nat} {S : AS} (h : AJ K S) : AJ K (aRest S) := by
  obtain ⟨v, us, sn, r⟩ := S
  cases sn with
  | none => exact h
  | some s =>
    obtain ⟨⟨h1, h3, h4, h5⟩, h6⟩ := h
    exact ⟨⟨h4 s rfl, fun x hx => absurd hx List.not_mem_nil, h4, h5⟩, h6⟩
theorem nI_pos1 {n : Nat} (h : n < 2147483648) : nI n = -1 ∨ 0 ≤ (nI n).toInt := Or.inr (nI_pos9 h)
theorem AJ.run {K : Nat} {S : AS} (h : AJ K S) (hK : K + 61 ≤ 100000) : AJ (K + 61) (aRun S) := by
  have hm := h.mono (J := K + 61) (by omega)
  have hpl := pall_lenT (t := S.2.2.2.1) (f := 61) (p := 0)
  have hcl := pall_len (t := S.2.2.2.1) (f := 61) (p := 0)
  have he : ∀ c ∈ ([] : List Nat), c < 127 := fun c hc => absurd hc List.not_mem_nil
  unfold aRun
  split
  · exact ⟨⟨hm.1.1, hm.1.2.1, hm.1.2.2.1, he⟩, hm.2.1, nI_pos1 (by show (pall S.2.2.2.1 61 0).2.1 < _; omega), hm.2.2.2⟩
  · split
    · rename_i i hi
      have := rnC_lt hi
      exact ⟨⟨hm.1.1, hm.1.2.1, hm.1.2.2.1, he⟩, hm.2.1, hm.2.2.1, nI_pos1 (by have h9 : i < 0 + (pall S.2.2.2.1 61 0).2.2.length := this.2; omega)⟩
    · have h1 := rnC_inv (K := K) (cs := (scr S).2.2) (v := S.1) (i := 0) h.1.1.1 (by show K + (pall S.2.2.2.1 61 0).2.2.length ≤ 100000; omega)
      have h2 := rnC_fb (K := K) (cs := (scr S).2.2) (v := S.1) (i := 0) h.1.1.2 h.1.1.1 (by show K + (pall S.2.2.2.1 61 0).2.2.length ≤ 100000; omega)
      exact (hm.adv ⟨h1.mono (by show K + (pall S.2.2.2.1 61 0).2.2.length ≤ K + 61; omega), h2⟩).buf he
theorem dgs_b {n : Nat} : ∀ c ∈ dgs n, c < 58 := by
  unfold dgs
  generalize ndg n = k
  induction k with
  | zero => intro c hc; exact absurd hc List.not_mem_nil
  | succ k ih =>
    intro c hc
    rcases List.mem_cons.mp hc with rfl | hc
    · omega
    · exact ih c hc
theorem stT_b {v : SV} : ∀ i, ∀ c ∈ stT v i, c < 256
  | 0 => by
    intro c hc
    unfold stT stH at hc
    simp only [List.mem_append, List.mem_cons, List.not_mem_nil, or_false, false_or] at hc
    rcases hc with ((((hc | hc) | hc) | hc) | hc) | hc
    all_goals first | omega | (have := dgs_b c hc; omega)
  | i + 1 => by
    intro c hc
    unfold stT at hc
    simp only [List.mem_append, List.mem_cons, List.not_mem_nil, or_false] at hc
    rcases hc with (((hc | hc) | hc) | hc) | hc
    · exact stT_b i c hc
    all_goals first | omega | (have := dgs_b c hc; omega)
theorem btT_b {v : SV} {p : Nat} : ∀ k, ∀ c ∈ btT v p k, c < 256
  | 0 => by
    intro c hc
    unfold btT at hc
    simp only [List.mem_append, List.mem_cons, List.not_mem_nil, or_false, false_or] at hc
    rcases hc with hc | hc
    · have := dgs_b c hc; omega
    · split at hc <;> omega
  | k + 1 => by
    intro c hc
    unfold btT at hc
    simp only [List.mem_append, List.mem_cons, List.not_mem_nil, or_false] at hc
    rcases hc with (hc | hc) | hc
    · exact btT_b k c hc
    · split at hc <;> omega
    · have := dgs_b c hc; omega
theorem AJ.rb {K : Nat} {S : AS} {x : Int32} (h : AJ K S) : AJ K (aRb S x) := by
  unfold aRb
  split
  · exact h.out (btT_b _)
  · exact h
theorem AJ.st {K : Nat} {S : AS} {i : Nat} (h : AJ K S) : AJ K (aOut S (stT S.1 i)) := h.out (stT_b _)
