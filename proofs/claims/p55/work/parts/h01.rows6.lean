/-! ===== the class's object, and all that it holds ===== -/
def upA {α : Type} (g : Nat → α) (r : Nat) (x : α) : Nat → α := fun r' => if r' = r then x else g r'
/-- the ten states of the ring, from the present one on (1: the draft; 9: the last before); then the snapshot, the script, the output text -/
def wBFl (cy : Nat → ClassId) (f fa s o : Nat) (an : Nat → Nat) (pr un hs : Nat) (e1 e2 : Int32) (fc : Nat → Nat) (SC OB : va_W) (sn : SV) (AD : Nat → Nat → Nat) (VS : Nat → SV) : List va_W :=
  [(f, .inr (7, [.ref fa, .ref (an 0), .ref s, .ref o, .int (nI pr), .int (nI un), .int (nI hs), .int e1, .int e2])), (fa, .inl (cy 5, aR 10 (fun i => some (fc i))))] :: ((List.range 10).map (fun r => wSt cy (AD r) (VS r)) ++ [wSt cy an sn, SC, OB])
def wBF (cy : Nat → ClassId) (f fa s o : Nat) (an : Nat → Nat) (pr un hs : Nat) (e1 e2 : Int32) (fc : Nat → Nat) (SC OB : va_W) (sn : SV) (AD : Nat → Nat → Nat) (VS : Nat → SV) : va_W := (wBFl cy f fa s o an pr un hs e1 e2 fc SC OB sn AD VS).flatten
theorem fl_out {bs : List va_W} {b : va_W} (k : Nat) (h : bs[k]? = some b) : bs.flatten.Perm (b ++ (bs.eraseIdx k).flatten) := (er_perm h).flatten
theorem fl_back {bs bs' : List va_W} {b : va_W} (k : Nat) (h : bs'[k]? = some b) (he : bs'.eraseIdx k = bs.eraseIdx k) : (b ++ (bs.eraseIdx k).flatten).Perm bs'.flatten := by
  rw [← he]
  exact (fl_out k h).symm
theorem fl_out2 {bs : List va_W} {b b2 : va_W} (k j : Nat) (h : bs[k]? = some b) (h2 : (bs.eraseIdx k)[j]? = some b2) : bs.flatten.Perm ((b ++ b2) ++ ((bs.eraseIdx k).eraseIdx j).flatten) := by
  rw [List.append_assoc]
  exact (fl_out k h).trans (List.Perm.append_left b (fl_out j h2))
theorem fl_back2 {bs bs' : List va_W} {b b2 : va_W} (k j : Nat) (h : bs'[k]? = some b) (h2 : (bs'.eraseIdx k)[j]? = some b2) (he : (bs'.eraseIdx k).eraseIdx j = (bs.eraseIdx k).eraseIdx j) : ((b ++ b2) ++ ((bs.eraseIdx k).eraseIdx j).flatten).Perm bs'.flatten := by
  rw [← he]
  exact (fl_out2 k j h h2).symm
theorem fl_mem {bs : List va_W} {b : va_W} {q : Nat × va_E} (k : Nat) (h : bs[k]? = some b) (hq : q ∈ b) : q ∈ bs.flatten := (fl_out k h).mem_iff.mpr (List.mem_append_left _ hq)
theorem fl_perm {bs bs' : List va_W} {n : Nat} (is : List Nat) (h0 : is.Perm (List.range n)) (hn : bs.length = n) (h : is.filterMap (fun i => bs[i]?) = bs') : bs.flatten.Perm bs'.flatten := (permI is h0 hn h).flatten
/-- the exception of a refusal -/
def exC (x : Int32) : String := if x.toInt = -1 then "java/lang/IndexOutOfBoundsException" else if x.toInt = -2 then "java/lang/IllegalArgumentException" else if x.toInt = -3 then "java/lang/IllegalStateException" else if x.toInt = -4 then "java/lang/UnsupportedOperationException" else "java/util/NoSuchElementException"
/-- the flags of all batches are flags -/
def FB (v : SV) : Prop := ∀ i, i < 8 → v (13 + i) 4 ≤ 1
/-- what the class's cells hold of the abstract state -/
def FR (cy : Nat → ClassId) (s o pr un hs : Nat) (e1 e2 : Int32) (fc : Nat → Nat) (SC OB : va_W) (sn : SV) (AD : Nat → Nat → Nat) (VS : Nat → SV) (S : AS) : Prop :=
  (pr < 10 ∧ ∀ r, r < 10 → fc ((pr + r) % 10) = AD r 0) ∧ (S.1 = VS 0 ∧ S.2.1.length = un ∧ un ≤ 8 ∧ ∀ i, i < un → S.2.1[i]? = some (VS (9 - i))) ∧ (hs ≤ 1 ∧ S.2.2.1 = if hs = 1 then some sn else none) ∧
  (∃ (nq t q m ml c ct po co : Nat) (g nb : Nat → Nat), SC = wScr cy s nq t q m ml c g nb ct po co ∧ SBp m c g S.2.2.2.1 ∧ c ≤ 60) ∧ (∃ (q m ml c : Nat) (g : Nat → Nat), OB = wSB cy o q m ml c g ∧ SBp m c g S.2.2.2.2.1 ∧ c ≤ 70) ∧ e1 = S.2.2.2.2.2.1 ∧ e2 = S.2.2.2.2.2.2
def FS (cy : Nat → ClassId) (f : Nat) (S : AS) (u : va_W) : Prop := ∃ (fa s o pr un hs : Nat) (an : Nat → Nat) (e1 e2 : Int32) (fc : Nat → Nat) (SC OB : va_W) (sn : SV) (AD : Nat → Nat → Nat) (VS : Nat → SV), u = wBF cy f fa s o an pr un hs e1 e2 fc SC OB sn AD VS ∧ FR cy s o pr un hs e1 e2 fc SC OB sn AD VS S
/-- what holds of the abstract state after K changes at most -/
def AI (K : Nat) (S : AS) : Prop := (Inv K S.1 ∧ FB S.1) ∧ (∀ x ∈ S.2.1, Inv K x ∧ FB x) ∧ (∀ x, S.2.2.1 = some x → Inv K x ∧ FB x) ∧ (∀ c ∈ S.2.2.2.1, c < 127)
section BFM
variable {cy : Nat → ClassId} {f fa s o pr un hs : Nat} {an : Nat → Nat} {e1 e2 : Int32} {fc : Nat → Nat} {SC OB : va_W} {sn : SV} {AD : Nat → Nat → Nat} {VS : Nat → SV}
theorem BF_mem0 {q : Nat × va_E} (h : q ∈ wSt cy (AD 0) (VS 0)) : q ∈ wBF cy f fa s o an pr un hs e1 e2 fc SC OB sn AD VS := fl_mem (bs := wBFl cy f fa s o an pr un hs e1 e2 fc SC OB sn AD VS) 1 rfl h
theorem BF_bat {i : Nat} (hi : i < 8) {q : Nat × va_E} (h : q ∈ wStB cy (AD 0) (VS 0) i) : q ∈ wBF cy f fa s o an pr un hs e1 e2 fc SC OB sn AD VS := BF_mem0 (wStB_mem hi h)
theorem BF_memS {q : Nat × va_E} (h : q ∈ SC) : q ∈ wBF cy f fa s o an pr un hs e1 e2 fc SC OB sn AD VS := fl_mem (bs := wBFl cy f fa s o an pr un hs e1 e2 fc SC OB sn AD VS) 12 rfl h
theorem BF_memN {q : Nat × va_E} (h : q ∈ wSt cy an sn) : q ∈ wBF cy f fa s o an pr un hs e1 e2 fc SC OB sn AD VS := fl_mem (bs := wBFl cy f fa s o an pr un hs e1 e2 fc SC OB sn AD VS) 11 rfl h
end BFM
section VTABI
variable {X : xC} {cc : ByteArray} {own : String} {d mc ms : Nat} {k n : Nat} {ws : va_W} {L : List (Option Value)} {st : List Value} {pc pc' : Nat}
theorem r_tabI {dflt lo hi : Int} {offs : Array Int} {len : Nat} {off a : Int} {x : Int32} {tgt : Nat} (hX : Ok SF X cc own d mc ms) (hd : decode cc pc = .ok (.tableswitch dflt lo hi offs, len)) (ha : x.toInt = a) (h1 : lo ≤ a) (h2 : a ≤ hi) (ho : offs[(a - lo).toNat]? = some off) (ht : (pc : Int) + off = (tgt : Int)) (h : V X k n ws L st tgt) : V X k n ws L (.int x :: st) pc := by
  obtain ⟨p, l, e, R, s, m, args, below, meth, c, nL, G, A, Q⟩ := X
  obtain ⟨hx, hb, hown, hts, hK, hA, hlk, hml, hR, hsf, hNw⟩ := hX
  intro H locs ls hP hD hS hl
  exact lv_tableIn hx hb hd (by rw [ha]; omega) (by rw [ha]; omega) (by rw [ha]; exact ho) ht (h H locs ls hP hD hS hl)
theorem Outs_nost {ws0 : va_W} {PX : String → va_W → Prop} (h : Outs X mc ms ws0 PX) : (c0_l X).stackTraces = false := by
  obtain ⟨p, l, e, R, s, m, args, below, meth, c, nL, G, A, Q⟩ := X
  exact h.1
end VTABI
theorem cF_answered {l : Launch} {D : va_G} {cy : Nat → ClassId} {sa : Nat → Nat} (hst : l.stackTraces = false) {x : Int32} : MX l yX5_answered cX5_answered 1 (some .int) 6 1 6 (D, cy, sa) [.int x] [] (fun w u => w = some (.int x) ∧ ¬ (x.toInt < 0 ∧ -5 ≤ x.toInt) ∧ u = []) (fun E u => (x.toInt < 0 ∧ -5 ≤ x.toInt) ∧ E = exC x ∧ u = []) := by
  refine MX_by (own := RX5) (L := [some (.int x)]) hst (by decide +kernel) rfl rfl (Nat.le_of_ble_eq_true rfl) 0 rfl (fun X hX hE hO hnL hG hcy hnm => ?_)
  refine r_iload_n (pc' := 1) hX dX5_answered_0 rfl rfl ?_
  by_cases q0 : x.toInt = -1
  · exact r_tabI (tgt := 36) hX dX5_answered_1 q0 (by decide) (by decide) rfl (by decide) (r_throwW hX hO th_IOOB 0 (by decide) rfl dX5_answered_36 dX5_answered_39 dX5_answered_40 dX5_answered_43 dX5_answered_46 (by decide) (by decide) ⟨by omega, by unfold exC; rw [if_pos q0], rfl⟩ (by decide) (by decide))
  by_cases q1 : x.toInt = -2
  · exact r_tabI (tgt := 47) hX dX5_answered_1 q1 (by decide) (by decide) rfl (by decide) (r_throwW hX hO th_IAE 1 (by decide) rfl dX5_answered_47 dX5_answered_50 dX5_answered_51 dX5_answered_54 dX5_answered_57 (by decide) (by decide) ⟨by omega, by unfold exC; rw [if_neg q0, if_pos q1], rfl⟩ (by decide) (by decide))
  by_cases q2 : x.toInt = -3
  · exact r_tabI (tgt := 58) hX dX5_answered_1 q2 (by decide) (by decide) rfl (by decide) (r_throwW hX hO th_ISE 2 (by decide) rfl dX5_answered_58 dX5_answered_61 dX5_answered_62 dX5_answered_65 dX5_answered_68 (by decide) (by decide) ⟨by omega, by unfold exC; rw [if_neg q0, if_neg q1, if_pos q2], rfl⟩ (by decide) (by decide))
  by_cases q3 : x.toInt = -4
  · exact r_tabI (tgt := 69) hX dX5_answered_1 q3 (by decide) (by decide) rfl (by decide) (r_throwW hX hO th_UOE 3 (by decide) rfl dX5_answered_69 dX5_answered_72 dX5_answered_73 dX5_answered_76 dX5_answered_79 (by decide) (by decide) ⟨by omega, by unfold exC; rw [if_neg q0, if_neg q1, if_neg q2, if_pos q3], rfl⟩ (by decide) (by decide))
  by_cases q4 : x.toInt = -5
  · exact r_tabI (tgt := 80) hX dX5_answered_1 q4 (by decide) (by decide) rfl (by decide) (r_throwW hX hO th_NSE 4 (by decide) rfl dX5_answered_80 dX5_answered_83 dX5_answered_84 dX5_answered_87 dX5_answered_90 (by decide) (by decide) ⟨by omega, by unfold exC; rw [if_neg q0, if_neg q1, if_neg q2, if_neg q3], rfl⟩ (by decide) (by decide))
  refine r_tabO (tgt := 91) hX dX5_answered_1 (by omega) (by decide) ?_
  refine r_iload_n (pc' := 92) hX dX5_answered_91 rfl rfl ?_
  exact r_ireturn hX hE dX5_answered_92 rfl ⟨rfl, by omega, rfl⟩ (by decide) (by decide)
